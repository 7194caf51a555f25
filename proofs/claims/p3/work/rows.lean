section
-- ===== PART A: goes FIRST, ahead of the names: the tables' words, and 'selects' of the private methods out of them =====
/-- a private method of a class that the tables say can be made, by its rows of tables_1 -/
def lw_okq (q : MethodName × Nat) : Prop := (q.1.cls ≠ "java/lang/invoke/MethodHandle" ∧ q.1.cls ≠ "java/lang/invoke/VarHandle") ∧ Cond.instantiable q.1.cls q.2 ∈ tables_1 ∧ Cond.privateMethod q.1 ∈ tables_1 ∧ Cond.instanceMethod q.1 ∈ tables_1
theorem lw_p0 : lw_okq (⟨"DockBook", "costAlone", "(LDockBook$Truck;)I"⟩, 9) := ⟨⟨by decide +kernel, by decide +kernel⟩, List.mem_of_getElem? (i := 18) (by decide +kernel), List.mem_of_getElem? (i := 213) (by decide +kernel), List.mem_of_getElem? (i := 214) (by decide +kernel)⟩
theorem lw_p1 : lw_okq (⟨"DockBook", "trucksThatAre", "(I)I"⟩, 9) := ⟨⟨by decide +kernel, by decide +kernel⟩, List.mem_of_getElem? (i := 18) (by decide +kernel), List.mem_of_getElem? (i := 239) (by decide +kernel), List.mem_of_getElem? (i := 240) (by decide +kernel)⟩
theorem lw_p2 : lw_okq (⟨"DockBook", "planCost", "()I"⟩, 9) := ⟨⟨by decide +kernel, by decide +kernel⟩, List.mem_of_getElem? (i := 18) (by decide +kernel), List.mem_of_getElem? (i := 243) (by decide +kernel), List.mem_of_getElem? (i := 244) (by decide +kernel)⟩
theorem lw_p3 : lw_okq (⟨"java/lang/Throwable", "fillInStackTrace", "(I)Ljava/lang/Throwable;"⟩, 6) := ⟨⟨by decide +kernel, by decide +kernel⟩, List.mem_of_getElem? (i := 298) (by decide +kernel), List.mem_of_getElem? (i := 296) (by decide +kernel), List.mem_of_getElem? (i := 297) (by decide +kernel)⟩
theorem lw_p4 : lw_okq (⟨"DockBook", "gatherWaiting", "()I"⟩, 9) := ⟨⟨by decide +kernel, by decide +kernel⟩, List.mem_of_getElem? (i := 18) (by decide +kernel), List.mem_of_getElem? (i := 359) (by decide +kernel), List.mem_of_getElem? (i := 360) (by decide +kernel)⟩
theorem lw_p5 : lw_okq (⟨"DockBook$DoorOrders", "extend", "(LDockBook$Door;[LDockBook$Truck;IIII)V"⟩, 3) := ⟨⟨by decide +kernel, by decide +kernel⟩, List.mem_of_getElem? (i := 38) (by decide +kernel), List.mem_of_getElem? (i := 380) (by decide +kernel), List.mem_of_getElem? (i := 381) (by decide +kernel)⟩
theorem lw_p6 : lw_okq (⟨"DockBook$DoorOrders", "keepIfBetter", "(III)V"⟩, 3) := ⟨⟨by decide +kernel, by decide +kernel⟩, List.mem_of_getElem? (i := 38) (by decide +kernel), List.mem_of_getElem? (i := 384) (by decide +kernel), List.mem_of_getElem? (i := 385) (by decide +kernel)⟩
theorem lw_p7 : lw_okq (⟨"DockBook$DoorOrders", "startsComeFirst", "(II)Z"⟩, 3) := ⟨⟨by decide +kernel, by decide +kernel⟩, List.mem_of_getElem? (i := 38) (by decide +kernel), List.mem_of_getElem? (i := 388) (by decide +kernel), List.mem_of_getElem? (i := 389) (by decide +kernel)⟩
theorem lw_p8 : lw_okq (⟨"DockBook$DoorOrders", "add", "(LDockBook$Door;[LDockBook$Truck;IIIII)V"⟩, 3) := ⟨⟨by decide +kernel, by decide +kernel⟩, List.mem_of_getElem? (i := 38) (by decide +kernel), List.mem_of_getElem? (i := 392) (by decide +kernel), List.mem_of_getElem? (i := 393) (by decide +kernel)⟩
theorem lw_p9 : lw_okq (⟨"DockBook$DoorChoice", "choose", "(IIII)V"⟩, 5) := ⟨⟨by decide +kernel, by decide +kernel⟩, List.mem_of_getElem? (i := 30) (by decide +kernel), List.mem_of_getElem? (i := 398) (by decide +kernel), List.mem_of_getElem? (i := 399) (by decide +kernel)⟩
theorem lw_p10 : lw_okq (⟨"DockBook$DoorChoice", "chooseDoor", "(IIIII)V"⟩, 5) := ⟨⟨by decide +kernel, by decide +kernel⟩, List.mem_of_getElem? (i := 30) (by decide +kernel), List.mem_of_getElem? (i := 405) (by decide +kernel), List.mem_of_getElem? (i := 406) (by decide +kernel)⟩
theorem lw_p11 : lw_okq (⟨"DockBook$DoorChoice", "chooseNothing", "(IIII)V"⟩, 5) := ⟨⟨by decide +kernel, by decide +kernel⟩, List.mem_of_getElem? (i := 30) (by decide +kernel), List.mem_of_getElem? (i := 409) (by decide +kernel), List.mem_of_getElem? (i := 410) (by decide +kernel)⟩
theorem lw_p12 : lw_okq (⟨"DockBook$DoorChoice", "bestSetAt", "(II)I"⟩, 5) := ⟨⟨by decide +kernel, by decide +kernel⟩, List.mem_of_getElem? (i := 30) (by decide +kernel), List.mem_of_getElem? (i := 413) (by decide +kernel), List.mem_of_getElem? (i := 414) (by decide +kernel)⟩
theorem lw_p13 : lw_okq (⟨"DockBook", "planByRule", "(I)V"⟩, 9) := ⟨⟨by decide +kernel, by decide +kernel⟩, List.mem_of_getElem? (i := 18) (by decide +kernel), List.mem_of_getElem? (i := 425) (by decide +kernel), List.mem_of_getElem? (i := 426) (by decide +kernel)⟩
theorem lw_p14 : lw_okq (⟨"DockBook", "sortByRule", "(I)V"⟩, 9) := ⟨⟨by decide +kernel, by decide +kernel⟩, List.mem_of_getElem? (i := 18) (by decide +kernel), List.mem_of_getElem? (i := 429) (by decide +kernel), List.mem_of_getElem? (i := 430) (by decide +kernel)⟩
theorem lw_p15 : lw_okq (⟨"DockBook", "placeByRule", "(LDockBook$Truck;)V"⟩, 9) := ⟨⟨by decide +kernel, by decide +kernel⟩, List.mem_of_getElem? (i := 18) (by decide +kernel), List.mem_of_getElem? (i := 437) (by decide +kernel), List.mem_of_getElem? (i := 438) (by decide +kernel)⟩
def lw_privs_1 : List (MethodName × Nat) := [(⟨"DockBook", "costAlone", "(LDockBook$Truck;)I"⟩, 9), (⟨"DockBook", "trucksThatAre", "(I)I"⟩, 9), (⟨"DockBook", "planCost", "()I"⟩, 9), (⟨"java/lang/Throwable", "fillInStackTrace", "(I)Ljava/lang/Throwable;"⟩, 6), (⟨"DockBook", "gatherWaiting", "()I"⟩, 9), (⟨"DockBook$DoorOrders", "extend", "(LDockBook$Door;[LDockBook$Truck;IIII)V"⟩, 3), (⟨"DockBook$DoorOrders", "keepIfBetter", "(III)V"⟩, 3), (⟨"DockBook$DoorOrders", "startsComeFirst", "(II)Z"⟩, 3), (⟨"DockBook$DoorOrders", "add", "(LDockBook$Door;[LDockBook$Truck;IIIII)V"⟩, 3), (⟨"DockBook$DoorChoice", "choose", "(IIII)V"⟩, 5), (⟨"DockBook$DoorChoice", "chooseDoor", "(IIIII)V"⟩, 5), (⟨"DockBook$DoorChoice", "chooseNothing", "(IIII)V"⟩, 5), (⟨"DockBook$DoorChoice", "bestSetAt", "(II)I"⟩, 5), (⟨"DockBook", "planByRule", "(I)V"⟩, 9), (⟨"DockBook", "sortByRule", "(I)V"⟩, 9), (⟨"DockBook", "placeByRule", "(LDockBook$Truck;)V"⟩, 9)]
theorem lw_r1 : ∀ q ∈ lw_privs_1, lw_okq q := List.forall_mem_cons.mpr ⟨lw_p0, List.forall_mem_cons.mpr ⟨lw_p1, List.forall_mem_cons.mpr ⟨lw_p2, List.forall_mem_cons.mpr ⟨lw_p3, List.forall_mem_cons.mpr ⟨lw_p4, List.forall_mem_cons.mpr ⟨lw_p5, List.forall_mem_cons.mpr ⟨lw_p6, List.forall_mem_cons.mpr ⟨lw_p7, List.forall_mem_cons.mpr ⟨lw_p8, List.forall_mem_cons.mpr ⟨lw_p9, List.forall_mem_cons.mpr ⟨lw_p10, List.forall_mem_cons.mpr ⟨lw_p11, List.forall_mem_cons.mpr ⟨lw_p12, List.forall_mem_cons.mpr ⟨lw_p13, List.forall_mem_cons.mpr ⟨lw_p14, List.forall_mem_cons.mpr ⟨lw_p15, fun _ h => absurd h List.not_mem_nil⟩⟩⟩⟩⟩⟩⟩⟩⟩⟩⟩⟩⟩⟩⟩⟩
theorem lw_p16 : lw_okq (⟨"DockBook", "truckNumbered", "(I)LDockBook$Truck;"⟩, 9) := ⟨⟨by decide +kernel, by decide +kernel⟩, List.mem_of_getElem? (i := 18) (by decide +kernel), List.mem_of_getElem? (i := 455) (by decide +kernel), List.mem_of_getElem? (i := 456) (by decide +kernel)⟩
theorem lw_p17 : lw_okq (⟨"DockBook", "mayBeCalled", "(LDockBook$Truck;)Z"⟩, 9) := ⟨⟨by decide +kernel, by decide +kernel⟩, List.mem_of_getElem? (i := 18) (by decide +kernel), List.mem_of_getElem? (i := 475) (by decide +kernel), List.mem_of_getElem? (i := 476) (by decide +kernel)⟩
theorem lw_p18 : lw_okq (⟨"DockBook", "doorNumbered", "(I)LDockBook$Door;"⟩, 9) := ⟨⟨by decide +kernel, by decide +kernel⟩, List.mem_of_getElem? (i := 18) (by decide +kernel), List.mem_of_getElem? (i := 479) (by decide +kernel), List.mem_of_getElem? (i := 480) (by decide +kernel)⟩
theorem lw_p19 : lw_okq (⟨"DockBook", "plannedBefore", "(LDockBook$Truck;)I"⟩, 9) := ⟨⟨by decide +kernel, by decide +kernel⟩, List.mem_of_getElem? (i := 18) (by decide +kernel), List.mem_of_getElem? (i := 570) (by decide +kernel), List.mem_of_getElem? (i := 571) (by decide +kernel)⟩
theorem lw_p20 : lw_okq (⟨"DockBook", "plannedFor", "(I)I"⟩, 9) := ⟨⟨by decide +kernel, by decide +kernel⟩, List.mem_of_getElem? (i := 18) (by decide +kernel), List.mem_of_getElem? (i := 590) (by decide +kernel), List.mem_of_getElem? (i := 591) (by decide +kernel)⟩
theorem lw_p21 : lw_okq (⟨"DockBookModel", "nothing", "(I)V"⟩, 30) := ⟨⟨by decide +kernel, by decide +kernel⟩, List.mem_of_getElem? (i := 595) (by decide +kernel), List.mem_of_getElem? (i := 708) (by decide +kernel), List.mem_of_getElem? (i := 709) (by decide +kernel)⟩
theorem lw_p22 : lw_okq (⟨"DockBookModel", "findWaiting", "()V"⟩, 30) := ⟨⟨by decide +kernel, by decide +kernel⟩, List.mem_of_getElem? (i := 595) (by decide +kernel), List.mem_of_getElem? (i := 716) (by decide +kernel), List.mem_of_getElem? (i := 717) (by decide +kernel)⟩
theorem lw_p23 : lw_okq (⟨"DockBookModel", "exactly", "()V"⟩, 30) := ⟨⟨by decide +kernel, by decide +kernel⟩, List.mem_of_getElem? (i := 595) (by decide +kernel), List.mem_of_getElem? (i := 720) (by decide +kernel), List.mem_of_getElem? (i := 721) (by decide +kernel)⟩
theorem lw_p24 : lw_okq (⟨"DockBookModel", "findSet", "(II)V"⟩, 30) := ⟨⟨by decide +kernel, by decide +kernel⟩, List.mem_of_getElem? (i := 595) (by decide +kernel), List.mem_of_getElem? (i := 724) (by decide +kernel), List.mem_of_getElem? (i := 725) (by decide +kernel)⟩
theorem lw_p25 : lw_okq (⟨"DockBookModel", "inOrder", "(III)I"⟩, 30) := ⟨⟨by decide +kernel, by decide +kernel⟩, List.mem_of_getElem? (i := 595) (by decide +kernel), List.mem_of_getElem? (i := 728) (by decide +kernel), List.mem_of_getElem? (i := 729) (by decide +kernel)⟩
theorem lw_p26 : lw_okq (⟨"DockBookModel", "freeFrom", "(I)I"⟩, 30) := ⟨⟨by decide +kernel, by decide +kernel⟩, List.mem_of_getElem? (i := 595) (by decide +kernel), List.mem_of_getElem? (i := 732) (by decide +kernel), List.mem_of_getElem? (i := 733) (by decide +kernel)⟩
theorem lw_p27 : lw_okq (⟨"DockBookModel", "at", "(I)I"⟩, 30) := ⟨⟨by decide +kernel, by decide +kernel⟩, List.mem_of_getElem? (i := 595) (by decide +kernel), List.mem_of_getElem? (i := 736) (by decide +kernel), List.mem_of_getElem? (i := 737) (by decide +kernel)⟩
theorem lw_p28 : lw_okq (⟨"DockBookModel", "startAt", "(III)I"⟩, 30) := ⟨⟨by decide +kernel, by decide +kernel⟩, List.mem_of_getElem? (i := 595) (by decide +kernel), List.mem_of_getElem? (i := 740) (by decide +kernel), List.mem_of_getElem? (i := 741) (by decide +kernel)⟩
theorem lw_p29 : lw_okq (⟨"DockBookModel", "costOf", "(I)I"⟩, 30) := ⟨⟨by decide +kernel, by decide +kernel⟩, List.mem_of_getElem? (i := 595) (by decide +kernel), List.mem_of_getElem? (i := 744) (by decide +kernel), List.mem_of_getElem? (i := 745) (by decide +kernel)⟩
theorem lw_p30 : lw_okq (⟨"DockBookModel", "setOf", "(I)I"⟩, 30) := ⟨⟨by decide +kernel, by decide +kernel⟩, List.mem_of_getElem? (i := 595) (by decide +kernel), List.mem_of_getElem? (i := 748) (by decide +kernel), List.mem_of_getElem? (i := 749) (by decide +kernel)⟩
theorem lw_p31 : lw_okq (⟨"DockBookModel", "byRule", "()V"⟩, 30) := ⟨⟨by decide +kernel, by decide +kernel⟩, List.mem_of_getElem? (i := 595) (by decide +kernel), List.mem_of_getElem? (i := 752) (by decide +kernel), List.mem_of_getElem? (i := 753) (by decide +kernel)⟩
def lw_privs_2 : List (MethodName × Nat) := [(⟨"DockBook", "truckNumbered", "(I)LDockBook$Truck;"⟩, 9), (⟨"DockBook", "mayBeCalled", "(LDockBook$Truck;)Z"⟩, 9), (⟨"DockBook", "doorNumbered", "(I)LDockBook$Door;"⟩, 9), (⟨"DockBook", "plannedBefore", "(LDockBook$Truck;)I"⟩, 9), (⟨"DockBook", "plannedFor", "(I)I"⟩, 9), (⟨"DockBookModel", "nothing", "(I)V"⟩, 30), (⟨"DockBookModel", "findWaiting", "()V"⟩, 30), (⟨"DockBookModel", "exactly", "()V"⟩, 30), (⟨"DockBookModel", "findSet", "(II)V"⟩, 30), (⟨"DockBookModel", "inOrder", "(III)I"⟩, 30), (⟨"DockBookModel", "freeFrom", "(I)I"⟩, 30), (⟨"DockBookModel", "at", "(I)I"⟩, 30), (⟨"DockBookModel", "startAt", "(III)I"⟩, 30), (⟨"DockBookModel", "costOf", "(I)I"⟩, 30), (⟨"DockBookModel", "setOf", "(I)I"⟩, 30), (⟨"DockBookModel", "byRule", "()V"⟩, 30)]
theorem lw_r2 : ∀ q ∈ lw_privs_2, lw_okq q := List.forall_mem_cons.mpr ⟨lw_p16, List.forall_mem_cons.mpr ⟨lw_p17, List.forall_mem_cons.mpr ⟨lw_p18, List.forall_mem_cons.mpr ⟨lw_p19, List.forall_mem_cons.mpr ⟨lw_p20, List.forall_mem_cons.mpr ⟨lw_p21, List.forall_mem_cons.mpr ⟨lw_p22, List.forall_mem_cons.mpr ⟨lw_p23, List.forall_mem_cons.mpr ⟨lw_p24, List.forall_mem_cons.mpr ⟨lw_p25, List.forall_mem_cons.mpr ⟨lw_p26, List.forall_mem_cons.mpr ⟨lw_p27, List.forall_mem_cons.mpr ⟨lw_p28, List.forall_mem_cons.mpr ⟨lw_p29, List.forall_mem_cons.mpr ⟨lw_p30, List.forall_mem_cons.mpr ⟨lw_p31, fun _ h => absurd h List.not_mem_nil⟩⟩⟩⟩⟩⟩⟩⟩⟩⟩⟩⟩⟩⟩⟩⟩
theorem lw_p32 : lw_okq (⟨"DockBookModel", "ahead", "(II)Z"⟩, 30) := ⟨⟨by decide +kernel, by decide +kernel⟩, List.mem_of_getElem? (i := 595) (by decide +kernel), List.mem_of_getElem? (i := 756) (by decide +kernel), List.mem_of_getElem? (i := 757) (by decide +kernel)⟩
theorem lw_p33 : lw_okq (⟨"DockBookModel", "costNow", "()I"⟩, 30) := ⟨⟨by decide +kernel, by decide +kernel⟩, List.mem_of_getElem? (i := 595) (by decide +kernel), List.mem_of_getElem? (i := 760) (by decide +kernel), List.mem_of_getElem? (i := 761) (by decide +kernel)⟩
theorem lw_p34 : lw_okq (⟨"DockBookModel", "noTruck", "(I)Z"⟩, 30) := ⟨⟨by decide +kernel, by decide +kernel⟩, List.mem_of_getElem? (i := 595) (by decide +kernel), List.mem_of_getElem? (i := 780) (by decide +kernel), List.mem_of_getElem? (i := 781) (by decide +kernel)⟩
theorem lw_p35 : lw_okq (⟨"DockBookModel", "noDoor", "(I)Z"⟩, 30) := ⟨⟨by decide +kernel, by decide +kernel⟩, List.mem_of_getElem? (i := 595) (by decide +kernel), List.mem_of_getElem? (i := 808) (by decide +kernel), List.mem_of_getElem? (i := 809) (by decide +kernel)⟩
def lw_privs_3 : List (MethodName × Nat) := [(⟨"DockBookModel", "ahead", "(II)Z"⟩, 30), (⟨"DockBookModel", "costNow", "()I"⟩, 30), (⟨"DockBookModel", "noTruck", "(I)Z"⟩, 30), (⟨"DockBookModel", "noDoor", "(I)Z"⟩, 30)]
theorem lw_r3 : ∀ q ∈ lw_privs_3, lw_okq q := List.forall_mem_cons.mpr ⟨lw_p32, List.forall_mem_cons.mpr ⟨lw_p33, List.forall_mem_cons.mpr ⟨lw_p34, List.forall_mem_cons.mpr ⟨lw_p35, fun _ h => absurd h List.not_mem_nil⟩⟩⟩⟩
def lw_privs : List (MethodName × Nat) := lw_privs_1 ++ (lw_privs_2 ++ (lw_privs_3))
def lw_tbl : List Cond := k2_sels lw_privs ++ tables_1
theorem lw_privs_ok : ∀ q ∈ lw_privs, lw_okq q := by
  show ∀ q ∈ lw_privs_1 ++ (lw_privs_2 ++ (lw_privs_3)), lw_okq q
  exact List.forall_mem_append.mpr ⟨lw_r1, List.forall_mem_append.mpr ⟨lw_r2, lw_r3⟩⟩
-- ===== end of PART A; then your names; then what follows =====
end
section
def RDo : String := "DockBook$Door"
def TDo : u_T := fun k => match k with
  | 0 => ("DockBook$Door", "kinds", "I", false)
  | 1 => ("DockBook$Door", "from", "I", false)
  | 2 => ("DockBook$Door", "to", "I", false)
  | 3 => ("DockBook$Door", "isOut", "Z", false)
  | 4 => ("DockBook$Door", "truckAtIt", "I", false)
  | 5 => ("DockBook$Door", "freeAt", "I", false)
  | 6 => ("DockBook$Door", "departed", "I", false)
  | _ => ("DockBook$Door", "nextReady", "I", false)
-- Do: 0 kinds, 1 from, 2 to, 3 isOut, 4 truckAtIt, 5 freeAt, 6 departed, 7 nextReady
def RCh : String := "DockBook$DoorChoice"
def TCh : u_T := fun k => match k with
  | 0 => ("DockBook$DoorChoice", "orders", "[LDockBook$DoorOrders;", true)
  | 1 => ("DockBook$DoorChoice", "setAtDoor", "[I", true)
  | 2 => ("DockBook$DoorChoice", "chosen", "[I", true)
  | 3 => ("DockBook$DoorChoice", "best", "[I", true)
  | _ => ("DockBook$DoorChoice", "bestCost", "I", false)
-- Ch: 0 orders, 1 setAtDoor, 2 chosen, 3 best, 4 bestCost
def ROr : String := "DockBook$DoorOrders"
def TOr : u_T := fun k => match k with
  | 0 => ("DockBook$DoorOrders", "costs", "[I", true)
  | 1 => ("DockBook$DoorOrders", "bestStarts", "[I", true)
  | _ => ("DockBook$DoorOrders", "starts", "[I", true)
-- Or: 0 costs, 1 bestStarts, 2 starts
def RTr : String := "DockBook$Truck"
def TTr : u_T := fun k => match k with
  | 0 => ("DockBook$Truck", "number", "I", true)
  | 1 => ("DockBook$Truck", "kind", "I", false)
  | 2 => ("DockBook$Truck", "arrival", "I", false)
  | 3 => ("DockBook$Truck", "need", "I", false)
  | 4 => ("DockBook$Truck", "rank", "I", false)
  | 5 => ("DockBook$Truck", "state", "I", false)
  | 6 => ("DockBook$Truck", "door", "I", false)
  | 7 => ("DockBook$Truck", "start", "I", false)
  | 8 => ("DockBook$Truck", "doorBefore", "I", false)
  | 9 => ("DockBook$Truck", "startBefore", "I", false)
  | 10 => ("DockBook$Truck", "sealTold", "I", false)
  | 11 => ("DockBook$Truck", "sealIsSure", "Z", false)
  | 12 => ("DockBook$Truck", "loadIsRight", "Z", false)
  | _ => ("DockBook$Truck", "departure", "I", false)
-- Tr: 0 number, 1 kind, 2 arrival, 3 need, 4 rank, 5 state, 6 door, 7 start, 8 doorBefore, 9 startBefore, 10 sealTold, 11 sealIsSure, 12 loadIsRight, 13 departure
def RBk : String := "DockBook"
def TBk : u_T := fun k => match k with
  | 0 => ("DockBook", "doors", "[LDockBook$Door;", true)
  | 1 => ("DockBook", "trucks", "[LDockBook$Truck;", true)
  | 2 => ("DockBook", "waiting", "[LDockBook$Truck;", true)
  | 3 => ("DockBook", "doorChoice", "LDockBook$DoorChoice;", true)
  | 4 => ("DockBook", "doorCount", "I", false)
  | 5 => ("DockBook", "truckCount", "I", false)
  | 6 => ("DockBook", "now", "I", false)
  | 7 => ("DockBook", "lastWasExact", "Z", false)
  | _ => ("DockBook", "lastMoved", "I", false)
-- Bk: 0 doors, 1 trucks, 2 waiting, 3 doorChoice, 4 doorCount, 5 truckCount, 6 now, 7 lastWasExact, 8 lastMoved
def RMo : String := "DockBookModel"
def TMo : u_T := fun k => match k with
  | 0 => ("DockBookModel", "thrownCode", "I", false)
  | 1 => ("DockBookModel", "now", "I", false)
  | 2 => ("DockBookModel", "doors", "I", false)
  | 3 => ("DockBookModel", "kinds", "[I", true)
  | 4 => ("DockBookModel", "opens", "[I", true)
  | 5 => ("DockBookModel", "closes", "[I", true)
  | 6 => ("DockBookModel", "isOut", "[Z", true)
  | 7 => ("DockBookModel", "left", "[I", true)
  | 8 => ("DockBookModel", "trucks", "I", false)
  | 9 => ("DockBookModel", "state", "[I", true)
  | 10 => ("DockBookModel", "kind", "[I", true)
  | 11 => ("DockBookModel", "arrival", "[I", true)
  | 12 => ("DockBookModel", "need", "[I", true)
  | 13 => ("DockBookModel", "ranks", "[I", true)
  | 14 => ("DockBookModel", "doorOf", "[I", true)
  | 15 => ("DockBookModel", "start", "[I", true)
  | 16 => ("DockBookModel", "gone", "[I", true)
  | 17 => ("DockBookModel", "seals", "[I", true)
  | 18 => ("DockBookModel", "twice", "[Z", true)
  | 19 => ("DockBookModel", "same", "[Z", true)
  | 20 => ("DockBookModel", "wasExact", "Z", false)
  | 21 => ("DockBookModel", "movedNow", "I", false)
  | 22 => ("DockBookModel", "waits", "I", false)
  | 23 => ("DockBookModel", "waiting", "[I", true)
  | 24 => ("DockBookModel", "newDoor", "[I", true)
  | 25 => ("DockBookModel", "newStart", "[I", true)
  | 26 => ("DockBookModel", "setCost", "[I", true)
  | 27 => ("DockBookModel", "setStart", "[I", true)
  | 28 => ("DockBookModel", "trial", "[I", true)
  | _ => ("DockBookModel", "counts", "[I", true)
-- Mo: 0 thrownCode, 1 now, 2 doors, 3 kinds, 4 opens, 5 closes, 6 isOut, 7 left, 8 trucks, 9 state, 10 kind, 11 arrival, 12 need, 13 ranks, 14 doorOf, 15 start, 16 gone, 17 seals, 18 twice, 19 same, 20 wasExact, 21 movedNow, 22 waits, 23 waiting, 24 newDoor, 25 newStart, 26 setCost, 27 setStart, 28 trial, 29 counts
abbrev maCl : List vw_C := [(RDo, TDo, 8), (RCh, TCh, 5), (ROr, TOr, 3), (RTr, TTr, 14), (RBk, TBk, 9), (RMo, TMo, 30)]
def ma_nf : Nat → Nat := fun k => match k with
  | 0 => 8
  | 1 => 5
  | 2 => 3
  | 3 => 14
  | 4 => 9
  | 5 => 30
  | _ => 0
def ma_fk : Nat → Nat → Bool := fun k f => match k with
  | 0 => false
  | 1 => f == 0 || f == 1 || f == 2 || f == 3
  | 2 => f == 0 || f == 1 || f == 2
  | 3 => false
  | 4 => f == 0 || f == 1 || f == 2 || f == 3
  | 5 => f == 3 || f == 4 || f == 5 || f == 6 || f == 7 || f == 9 || f == 10 || f == 11 || f == 12 || f == 13 || f == 14 || f == 15 || f == 16 || f == 17 || f == 18 || f == 19 || f == 23 || f == 24 || f == 25 || f == 26 || f == 27 || f == 28 || f == 29
  | _ => false
def ma_ft : Nat → Nat → FieldType := fun k f => match k with
  | 0 => ([.int, .int, .int, .boolean, .int, .int, .int, .int] : List FieldType).getD f .int
  | 1 => ([.array (.object "DockBook$DoorOrders"), .array (.int), .array (.int), .array (.int), .int] : List FieldType).getD f .int
  | 2 => ([.array (.int), .array (.int), .array (.int)] : List FieldType).getD f .int
  | 3 => ([.int, .int, .int, .int, .int, .int, .int, .int, .int, .int, .int, .boolean, .boolean, .int] : List FieldType).getD f .int
  | 4 => ([.array (.object "DockBook$Door"), .array (.object "DockBook$Truck"), .array (.object "DockBook$Truck"), .object "DockBook$DoorChoice", .int, .int, .int, .boolean, .int] : List FieldType).getD f .int
  | 5 => ([.int, .int, .int, .array (.int), .array (.int), .array (.int), .array (.boolean), .array (.int), .int, .array (.int), .array (.int), .array (.int), .array (.int), .array (.int), .array (.int), .array (.int), .array (.int), .array (.int), .array (.boolean), .array (.boolean), .boolean, .int, .int, .array (.int), .array (.int), .array (.int), .array (.int), .array (.int), .array (.int), .array (.int)] : List FieldType).getD f .int
  | _ => .int
def ma_ty : Nat → Option FieldType := fun a => match a with
  | 100 => some .int
  | 101 => some .long
  | 102 => some .boolean
  | 110 => some (.object "DockBook$Door")
  | 112 => some (.object "DockBook$DoorOrders")
  | 113 => some (.object "DockBook$Truck")
  | _ => none
def ma_en : Nat → String := fun k => match k with
  | 1 => "java/lang/IllegalArgumentException"
  | 2 => "java/lang/UnsupportedOperationException"
  | 3 => "java/util/NoSuchElementException"
  | _ => "java/lang/IllegalStateException"
theorem inDo : ∀ w ∈ u_ws RDo TDo 8, w ∈ lw_tbl := by decide +kernel
theorem ftDo : ∀ j, j < 8 → parseFieldDescriptor (TDo j).2.2.1 = some (ma_ft 0 j) := by decide +kernel
theorem nmDo : ∀ a, a < 8 → ∀ b, b < 8 → a ≠ b → (TDo a).2.1 ≠ (TDo b).2.1 := by decide +kernel
theorem dfDo : ∀ j, j < 8 → defaultValue (ma_ft 0 j) = if ma_fk 0 j = true then .null else .int 0 := by decide +kernel
theorem inCh : ∀ w ∈ u_ws RCh TCh 5, w ∈ lw_tbl := by decide +kernel
theorem ftCh : ∀ j, j < 5 → parseFieldDescriptor (TCh j).2.2.1 = some (ma_ft 1 j) := by decide +kernel
theorem nmCh : ∀ a, a < 5 → ∀ b, b < 5 → a ≠ b → (TCh a).2.1 ≠ (TCh b).2.1 := by decide +kernel
theorem dfCh : ∀ j, j < 5 → defaultValue (ma_ft 1 j) = if ma_fk 1 j = true then .null else .int 0 := by decide +kernel
theorem inOr : ∀ w ∈ u_ws ROr TOr 3, w ∈ lw_tbl := by decide +kernel
theorem ftOr : ∀ j, j < 3 → parseFieldDescriptor (TOr j).2.2.1 = some (ma_ft 2 j) := by decide +kernel
theorem nmOr : ∀ a, a < 3 → ∀ b, b < 3 → a ≠ b → (TOr a).2.1 ≠ (TOr b).2.1 := by decide +kernel
theorem dfOr : ∀ j, j < 3 → defaultValue (ma_ft 2 j) = if ma_fk 2 j = true then .null else .int 0 := by decide +kernel
theorem inTr : ∀ w ∈ u_ws RTr TTr 14, w ∈ lw_tbl := by decide +kernel
theorem ftTr : ∀ j, j < 14 → parseFieldDescriptor (TTr j).2.2.1 = some (ma_ft 3 j) := by decide +kernel
theorem nmTr : ∀ a, a < 14 → ∀ b, b < 14 → a ≠ b → (TTr a).2.1 ≠ (TTr b).2.1 := by decide +kernel
theorem dfTr : ∀ j, j < 14 → defaultValue (ma_ft 3 j) = if ma_fk 3 j = true then .null else .int 0 := by decide +kernel
theorem inBk : ∀ w ∈ u_ws RBk TBk 9, w ∈ lw_tbl := by decide +kernel
theorem ftBk : ∀ j, j < 9 → parseFieldDescriptor (TBk j).2.2.1 = some (ma_ft 4 j) := by decide +kernel
theorem nmBk : ∀ a, a < 9 → ∀ b, b < 9 → a ≠ b → (TBk a).2.1 ≠ (TBk b).2.1 := by decide +kernel
theorem dfBk : ∀ j, j < 9 → defaultValue (ma_ft 4 j) = if ma_fk 4 j = true then .null else .int 0 := by decide +kernel
theorem inMo : ∀ w ∈ u_ws RMo TMo 30, w ∈ lw_tbl := by decide +kernel
theorem ftMo : ∀ j, j < 30 → parseFieldDescriptor (TMo j).2.2.1 = some (ma_ft 5 j) := by decide +kernel
theorem nmMo : ∀ a, a < 30 → ∀ b, b < 30 → a ≠ b → (TMo a).2.1 ≠ (TMo b).2.1 := by decide +kernel
theorem dfMo : ∀ j, j < 30 → defaultValue (ma_ft 5 j) = if ma_fk 5 j = true then .null else .int 0 := by decide +kernel
/-- the words that stay true as the tables warm -/
def ma_w : Cond → Bool
  | .methodLinkNest .. => true
  | .arrayOver (.object _) => true
  | .declares _ => true
  | .castable .. => true
  | .stringRef .. => true
  | c => goodWord c
def maT : List Cond := lw_tbl.filter ma_w
theorem ma_in {c : Cond} (h : c ∈ lw_tbl) (hw : ma_w c = true) : c ∈ maT := List.mem_filter.mpr ⟨h, hw⟩
/-- the words of Throwable's two statics, which stand in the heap -/
def maH : List Cond := [.laysStatic "java/lang/Throwable" "UNASSIGNED_STACK" "[Ljava/lang/StackTraceElement;", .laysStatic "java/lang/Throwable" "SUPPRESSED_SENTINEL" "Ljava/util/List;", .isRef (.static "java/lang/Throwable" "UNASSIGNED_STACK" "[Ljava/lang/StackTraceElement;"), .isRef (.static "java/lang/Throwable" "SUPPRESSED_SENTINEL" "Ljava/util/List;")]
theorem ma_good : ∀ c ∈ maT, ma_w c = true := fun _ h => (List.mem_filter.mp h).2
theorem ma_keep {args a' : Array Value} {s U : State} (hW : s.WarmedH U.vm) {c : Cond} (hw : ma_w c = true) (h : c.before args s = true) : c.before a' U = true := by
  have tab : ∀ {c : Cond}, c.onTables = true → c.before args (s.setVm U.vm) = true → c.before a' U = true := fun hc hb => va_tabs (u := s.setVm U.vm) (U := U) hc rfl hb
  cases c with
  | methodLinkNest a i x b => exact va_Nw.use rfl (va_Nw.warmM hW (va_Nw.of rfl h))
  | declares x => exact va_Nw.use rfl (va_Nw.warmD hW (va_Nw.of rfl h))
  | castable a b => exact tab rfl (by rw [Cond.castable_setVm hW.alike]; exact h)
  | stringRef a i b =>
    have h1 := Cond.stringRef_warmed hW h
    simp only [Cond.before, Cond.holds, Cond.value] at h1 ⊢
    exact h1
  | arrayOver ty =>
    cases ty with
    | object C => exact va_AO.use (va_AO.moved hW.alike (va_AO.of h))
    | _ => exact word_at hW (good_of_word hw) h
  | _ => exact word_at hW (good_of_word hw) h
theorem ma_keepL {args a' : Array Value} {s U : State} {C n d : String} (hW : s.WarmedH U.vm) (hH : ∀ (q : Nat) (cell : Cell), s.heap[q]? = some cell → cell.vm.isStatics = true → U.heap[q]? = some cell) (h : (Cond.laysStatic C n d).before args s = true) : (Cond.laysStatic C n d).before a' U = true := by
  obtain ⟨c, k, i, f, a, cell, hc, hi, hst, ha, hcell, hs, hcls, hlt, hty⟩ := Cond.laysStatic_spec h
  obtain ⟨k', hi', he⟩ := State.fieldFound?_setVm hW.alike hi
  have hi2 : U.fieldFound? C n d = some (c, k', i, f) := hi'
  have hc2 : U.vm.findClass C = some c := by rw [hW.alike.findClass]; exact hc
  have ha2 : k'.statics = some a := by rw [he]; exact ha
  have hty2 : k'.staticTypes[f.slot]? = some f.type := by rw [he]; exact hty
  have hcell2 := hH a cell hcell hs
  simp [Cond.before, Cond.holds, Cond.value, hc2, hi2, ha2, hcell2, hst, hs, hcls, hlt, hty2]
theorem ma_keepR {args a' : Array Value} {s U : State} {C n d : String} (hW : s.WarmedH U.vm) (hH : ∀ (q : Nat) (cell : Cell), s.heap[q]? = some cell → cell.vm.isStatics = true → U.heap[q]? = some cell) (hl : (Cond.laysStatic C n d).before args s = true) (h : (Cond.isRef (.static C n d)).before args s = true) : (Cond.isRef (.static C n d)).before a' U = true := by
  obtain ⟨c, k, i, f, a, cell, hc, hi, hst, ha, hcell, hs, hcls, hlt, hty⟩ := Cond.laysStatic_spec hl
  obtain ⟨k', hi', he⟩ := State.fieldFound?_setVm hW.alike hi
  have hi2 : U.fieldFound? C n d = some (c, k', i, f) := hi'
  have ha2 : k'.statics = some a := by rw [he]; exact ha
  have hcell2 := hH a cell hcell hs
  cases hv : (Term.static C n d).eval args s none [] s with
  | none => simp [Cond.before, Cond.holds, Cond.value, hv] at h
  | some x =>
    obtain ⟨-, a2, cell2, e1, e2, -, hslot⟩ := Term.static_spec hi hv
    cases ha.symm.trans e1
    cases hcell.symm.trans e2
    have hv2 : (Term.static C n d).eval a' U none [] U = some x := by simp [Term.eval, State.fieldNamed?, hi2, ha2, hcell2, hst, hs, hslot]
    simp only [Cond.before, Cond.holds, Cond.value, hv] at h
    simp only [Cond.before, Cond.holds, Cond.value, hv2]
    exact h
theorem ma_keepH {args a' : Array Value} {s U : State} (hW : s.WarmedH U.vm) (hH : ∀ (q : Nat) (cell : Cell), s.heap[q]? = some cell → cell.vm.isStatics = true → U.heap[q]? = some cell) (h : ∀ w ∈ maH, w.before args s = true) : ∀ w ∈ maH, w.before a' U = true := by
  have h1 := h _ (by simp [maH] : Cond.laysStatic "java/lang/Throwable" "UNASSIGNED_STACK" "[Ljava/lang/StackTraceElement;" ∈ maH)
  have h2 := h _ (by simp [maH] : Cond.laysStatic "java/lang/Throwable" "SUPPRESSED_SENTINEL" "Ljava/util/List;" ∈ maH)
  intro w hw
  simp only [maH, List.mem_cons, List.not_mem_nil, or_false] at hw
  rcases hw with rfl | rfl | rfl | rfl
  · exact ma_keepL hW hH h1
  · exact ma_keepL hW hH h2
  · exact ma_keepR hW hH h1 (h _ (by simp [maH]))
  · exact ma_keepR hW hH h2 (h _ (by simp [maH]))
theorem iTDo : ∀ w ∈ u_ws RDo TDo 8, w ∈ maT := fun w h => ma_in (inDo w h) ((by decide +kernel : ∀ w ∈ u_ws RDo TDo 8, ma_w w = true) w h)
theorem iTCh : ∀ w ∈ u_ws RCh TCh 5, w ∈ maT := fun w h => ma_in (inCh w h) ((by decide +kernel : ∀ w ∈ u_ws RCh TCh 5, ma_w w = true) w h)
theorem iTOr : ∀ w ∈ u_ws ROr TOr 3, w ∈ maT := fun w h => ma_in (inOr w h) ((by decide +kernel : ∀ w ∈ u_ws ROr TOr 3, ma_w w = true) w h)
theorem iTTr : ∀ w ∈ u_ws RTr TTr 14, w ∈ maT := fun w h => ma_in (inTr w h) ((by decide +kernel : ∀ w ∈ u_ws RTr TTr 14, ma_w w = true) w h)
theorem iTBk : ∀ w ∈ u_ws RBk TBk 9, w ∈ maT := fun w h => ma_in (inBk w h) ((by decide +kernel : ∀ w ∈ u_ws RBk TBk 9, ma_w w = true) w h)
theorem iTMo : ∀ w ∈ u_ws RMo TMo 30, w ∈ maT := fun w h => ma_in (inMo w h) ((by decide +kernel : ∀ w ∈ u_ws RMo TMo 30, ma_w w = true) w h)
end
section
/-! THE SMALL MACHINE. Values (an int, a reference by class and number, a long), a heap by class, number and place, and the judgement Go: 'from here the invocation ends, and Q holds of its outcome and heap'. cl: nothing has been written or made yet; rd: nothing will have been. Classes: below 90 those of maCl; 97 a thrown object that nobody looks at; 98 nothing known; 99 the script; 100 int[], 101 long[], 102 boolean[], 110 and on arrays of objects. -/
abbrev AV : Type := Int32 ⊕ (Option (Nat × Nat) ⊕ Int64)
abbrev vI (x : Int32) : AV := Sum.inl x
abbrev vR (r : Option (Nat × Nat)) : AV := Sum.inr (Sum.inl r)
abbrev vO (c i : Nat) : AV := Sum.inr (Sum.inl (some (c, i)))
abbrev vL (z : Int64) : AV := Sum.inr (Sum.inr z)
abbrev vU : AV := vO 98 0
abbrev AH : Type := (Nat → Nat → Nat → Int32) × (Nat → Nat → Nat → Option (Nat × Nat)) × (Nat → Nat → Nat → Int64) × (Nat → Nat → Nat) × (Nat → Nat)
abbrev GO : Type := Option AV ⊕ Nat
abbrev MD : Type := MethodName × ByteArray × Nat × Option FieldType × List (Nat × Nat × Nat × Nat)
abbrev ma_n (h : AH) : Nat → Nat := h.2.2.2.2
def ma_up {α : Type} (f : Nat → Nat → Nat → α) (c i k : Nat) (v : α) : Nat → Nat → Nat → α := fun c' i' k' => if c' = c ∧ i' = i ∧ k' = k then v else f c' i' k'
def ma_u2 {α : Type} (f : Nat → Nat → α) (c i : Nat) (v : α) : Nat → Nat → α := fun c' i' => if c' = c ∧ i' = i then v else f c' i'
def ma_rf (ad : Nat → Nat → Nat) (r : Option (Nat × Nat)) : Value := match r with
  | none => .null
  | some x => .ref (ad x.1 x.2)
def ma_fs (ad : Nat → Nat → Nat) (h : AH) (c i : Nat) : List Value := (List.range (ma_nf c)).map (fun k => if ma_fk c k = true then ma_rf ad (h.2.1 c i k) else .int (h.1 c i k))
def ma_ar (ad : Nat → Nat → Nat) (h : AH) (c i : Nat) : vp_A := (h.2.2.2.1 c i, if c = 101 then .inr (.inl (h.2.2.1 c i)) else if c < 110 then .inl (h.1 c i) else .inr (.inr (.inr (.inr (fun j => (h.2.1 c i j).map (fun x => ad x.1 x.2))))))
def ma_E (aC : Nat → ClassId) (ad : Nat → Nat → Nat) (h : AH) (x : Nat × Nat) : va_E := if x.1 < 90 then .inr (x.1, ma_fs ad h x.1 x.2) else .inl (aC x.1, ma_ar ad h x.1 x.2)
def ma_ws (aC : Nat → ClassId) (ad : Nat → Nat → Nat) (h : AH) (Ls : List (Nat × Nat)) : va_W := Ls.map (fun x => (ad x.1 x.2, ma_E aC ad h x))
/-- references lead to what there is; what isn't made yet is 0 -/
def ma_cls (h : AH) : Prop := (∀ k i j r, i < ma_n h k → h.2.1 k i j = some r → r.2 < ma_n h r.1) ∧ ∀ k i j, ma_n h k ≤ i → h.1 k i j = 0 ∧ h.2.1 k i j = none ∧ h.2.2.1 k i j = 0
/-- the machine's heap holds the small heap -/
def ma_HR (D : va_G) (aC : Nat → ClassId) (A : Nat → Prop) (ad : Nat → Nat → Nat) (h : AH) (H : Heap) : Prop := ∃ Ls : List (Nat × Nat), (∀ x, x ∈ Ls ↔ x.2 < ma_n h x.1) ∧ Ls.Nodup ∧ va_P D maCl (ma_ws aC ad h Ls) H ∧ va_D A (ma_ws aC ad h Ls) ∧ (∀ k, 90 ≤ k → k < 100 → ma_n h k = 0) ∧ ma_cls h
def ma_RV (ad : Nat → Nat → Nat) (n : Nat → Nat) (v : AV) (x : Value) : Prop := match v with
  | .inl i => x = .int i
  | .inr (.inr z) => x = .long z
  | .inr (.inl none) => x = .null
  | .inr (.inl (some r)) => (r.1 = 97 ∧ ∃ a, x = .ref a) ∨ (r.1 = 99 ∧ x = .ref (ad 99 0)) ∨ (r.2 < n r.1 ∧ x = .ref (ad r.1 r.2))
def ma_SR (ad : Nat → Nat → Nat) (n : Nat → Nat) : List AV → List Value → Prop
  | [], S => S = []
  | v :: vs, S => ∃ x S', S = x :: S' ∧ ma_RV ad n v x ∧ ma_SR ad n vs S'
/-- no local is a long -/
def ma_nl (v : AV) : Prop := match v with
  | .inr (.inr _) => False
  | _ => True
def ma_LR (ad : Nat → Nat → Nat) (n : Nat → Nat) (N : Nat) (ls : List AV) (L : Array Slot) : Prop := L.size = N ∧ lv_wf L ∧ ∀ (k : Nat) (v : AV), ls[k]? = some v → v = vU ∨ (ma_nl v ∧ ∃ x : Value, L[k]? = some (Slot.val x) ∧ ma_RV ad n v x)
def ma_Ex (ad0 : Nat → Nat → Nat) (n0 : Nat → Nat) (ad : Nat → Nat → Nat) (n : Nat → Nat) : Prop := (∀ k i, i < n0 k → ad k i = ad0 k i ∧ i < n k) ∧ ad 99 0 = ad0 99 0
/-- an exception of the kind k lies at a -/
def ma_Ek (k : Nat) (a : Addr) (t : State) : Prop := ∃ cell : Cell, t.heap[a]? = some cell ∧ cell.vm.isStatics = false ∧ t.vm.findClass (ma_en k) = some cell.cls
def ma_OR (ad : Nat → Nat → Nat) (n : Nat → Nat) (g : GO) (o : Outcome) (t : State) : Prop := match g with
  | .inl none => o = .returned none
  | .inl (some v) => ∃ x, o = .returned (some x) ∧ ma_RV ad n v x
  | .inr k => ∃ a, o = .threw a ∧ ma_Ek k a t
def ma_Z (below : List Frame) (D : va_G) (aC : Nat → ClassId) (A : Nat → Prop) (ad0 : Nat → Nat → Nat) (n0 : Nat → Nat) (rd : Bool) (Q : GO → AH → Prop) (s : State) (mc ms : Nat) : State → Prop := fun t => ∃ o, t.status = .running ∧ Ended t below o ∧ s.WarmedH t.vm ∧ (∃ L, s.sameButNew ({ t with vm := s.vm } : State) L mc ms ∧ (∀ q ∈ L, A q.base) ∧ (rd = true → L = [])) ∧ va_F A s t ∧ ∃ (g : GO) (h' : AH) (ad' : Nat → Nat → Nat), Q g h' ∧ ma_OR ad' (ma_n h') g o t ∧ ma_HR D aC A ad' h' t.heap ∧ ma_Ex ad0 n0 ad' (ma_n h')
/-- what stands fast in a method -/
def ma_Cx (y : MD) (p : Program) (l : Launch) (s : State) (m : MethodId) (args : Array Value) (meth : Method) (c : Code) (D : va_G) (aC : Nat → ClassId) : Prop :=
  p.tables.exec = Jvm.exec ∧ c.code = y.2.1 ∧ c.maxLocals = y.2.2.1 ∧ meth.sig.returnType = y.2.2.2.1 ∧ s.vm.findClass y.1.cls = some m.cls ∧ (∀ w ∈ maT, w.before args s = true) ∧ meth.locks = false ∧ meth.name = y.1.name ∧ c.exceptionTable.toList = tableOf y.2.2.2.2 ∧ va_K D maCl [] s ∧ (∀ k ty, ma_ty k = some ty → ArrOfT s (aC k) ty ∧ va_RA s (aC k) ty) ∧ (∀ j k, 1 ≤ j → j ≤ 4 → 1 ≤ k → k ≤ 4 → j ≠ k → va_Nc (ma_en j) (ma_en k) s) ∧ l.flags = flags0 ∧ ∀ w ∈ maH, w.before args s = true
def ma_Rm (d bc bs : Nat) (R : Room) (cells slots mc ms : Nat) : Prop := d ≤ R.frames ∧ 64 * d ≤ R.locals ∧ cells + bc ≤ mc ∧ slots + bs ≤ ms ∧ mc ≤ R.cells ∧ ms ≤ R.slots
def ma_SX (sc : Nat × (Nat → Int32)) (A : Nat → Prop) (ad : Nat → Nat → Nat) (s : State) : Prop := va_X (ad 99 0) sc.1 sc.2 s s.heap ∧ ¬ A (ad 99 0) ∧ ad 99 0 < s.heap.size ∧ ∀ (q : Nat) (cell : Cell), A q → s.heap[q]? = some cell → cell.vm.isStatics = false
/-- all that changes from step to step -/
def ma_Dy (sc : Nat × (Nat → Int32)) (cl : Bool) (d bc bs : Nat) (y : MD) (ls st : List AV) (h : AH) (R : Room) (s : State) (H : Heap) (locs : List Loc) (cells slots mc ms : Nat) (D : va_G) (aC : Nat → ClassId) (A : Nat → Prop) (ad ad0 : Nat → Nat → Nat) (n0 : Nat → Nat) (L : Array Slot) (S : List Value) : Prop :=
  ma_Rm d bc bs R cells slots mc ms ∧ ma_HR D aC A ad h H ∧ ma_SX sc A ad s ∧ va_S A s.heap H locs ∧ (∀ q, s.heap.size ≤ q → A q) ∧ ma_Ex ad0 n0 ad (ma_n h) ∧ ma_LR ad (ma_n h) y.2.2.1 ls L ∧ ma_SR ad (ma_n h) st S ∧ (cl = true → locs = [] ∧ ma_HR D aC A ad h s.heap)
def Go (sc : Nat × (Nat → Int32)) (cl rd : Bool) (d bc bs : Nat) (y : MD) (pc : Nat) (ls st : List AV) (h : AH) (Q : GO → AH → Prop) : Prop :=
  ∀ (p : Program) (l : Launch) (e : Env) (R : Room) (s : State) (m : MethodId) (args : Array Value) (below : List Frame) (meth : Method) (c : Code) (H : Heap) (locs : List Loc) (cells slots mc ms : Nat) (D : va_G) (aC : Nat → ClassId) (A : Nat → Prop) (ad ad0 : Nat → Nat → Nat) (n0 : Nat → Nat) (L : Array Slot) (S : List Value),
    ma_Cx y p l s m args meth c D aC → ma_Dy sc cl d bc bs y ls st h R s H locs cells slots mc ms D aC A ad ad0 n0 L S → W p l e R s m args below meth c H locs cells slots (ma_Z below D aC A ad0 n0 rd Q s mc ms) (F0 m pc L S)
/-- more may be asked of the start than is needed -/
theorem Go.weak {sc : Nat × (Nat → Int32)} {cl rd : Bool} {d bc bs : Nat} {y : MD} {pc : Nat} {ls st : List AV} {h : AH} {Q : GO → AH → Prop} (k : Go sc false rd d bc bs y pc ls st h Q) : Go sc cl rd d bc bs y pc ls st h Q := by
  intro p l e R s m args below meth c H locs cells slots mc ms D aC A ad ad0 n0 L S hC hDy
  obtain ⟨a1, a2, a3, a4, a5, a6, a7, a8, a9⟩ := hDy
  exact k p l e R s m args below meth c H locs cells slots mc ms D aC A ad ad0 n0 L S hC ⟨a1, a2, a3, a4, a5, a6, a7, a8, fun h9 => nomatch h9⟩
theorem ma_up_self {α : Type} (f : Nat → Nat → Nat → α) (c i k : Nat) (v : α) : ma_up f c i k v c i k = v := by simp [ma_up]
theorem ma_RV_ext {ad ad' : Nat → Nat → Nat} {n n' : Nat → Nat} {v : AV} {x : Value} (he : ma_Ex ad n ad' n') (h : ma_RV ad n v x) : ma_RV ad' n' v x := by
  rcases v with i | ⟨_ | r⟩ | z
  · exact h
  · exact h
  · rcases h with h | ⟨h1, h2⟩ | ⟨h1, h2⟩
    · exact Or.inl h
    · exact Or.inr (Or.inl ⟨h1, by rw [he.2]; exact h2⟩)
    · obtain ⟨e1, e2⟩ := he.1 _ _ h1
      exact Or.inr (Or.inr ⟨e2, by rw [e1]; exact h2⟩)
  · exact h
theorem ma_SR_ext {ad ad' : Nat → Nat → Nat} {n n' : Nat → Nat} (he : ma_Ex ad n ad' n') : ∀ {st : List AV} {S : List Value}, ma_SR ad n st S → ma_SR ad' n' st S
  | [], _, h => h
  | _ :: _, _, ⟨x, S', e, h1, h2⟩ => ⟨x, S', e, ma_RV_ext he h1, ma_SR_ext he h2⟩
theorem ma_LR_ext {ad ad' : Nat → Nat → Nat} {n n' : Nat → Nat} {N : Nat} {ls : List AV} {L : Array Slot} (he : ma_Ex ad n ad' n') (h : ma_LR ad n N ls L) : ma_LR ad' n' N ls L :=
  ⟨h.1, h.2.1, fun k v hk => (h.2.2 k v hk).imp id (fun ⟨a, x, b, d⟩ => ⟨a, x, b, ma_RV_ext he d⟩)⟩
theorem ma_Ex_rf {ad : Nat → Nat → Nat} {n : Nat → Nat} : ma_Ex ad n ad n := ⟨fun _ _ h => ⟨rfl, h⟩, rfl⟩
theorem ma_Ex_tr {ad ad1 ad2 : Nat → Nat → Nat} {n n1 n2 : Nat → Nat} (h1 : ma_Ex ad n ad1 n1) (h2 : ma_Ex ad1 n1 ad2 n2) : ma_Ex ad n ad2 n2 :=
  ⟨fun k i h => by obtain ⟨a, b⟩ := h1.1 k i h; obtain ⟨a2, b2⟩ := h2.1 k i b; exact ⟨a2.trans a, b2⟩, h2.2.trans h1.2⟩
theorem ma_W_mono {p : Program} {l : Launch} {e : Env} {R : Room} {s : State} {m : MethodId} {args : Array Value} {below : List Frame} {meth : Method} {c : Code} {H : Heap} {locs : List Loc} {cells slots : Nat} {Q Q' : State → Prop} {g : JFrame} (hq : ∀ t, Q t → Q' t) (k : W p l e R s m args below meth c H locs cells slots Q g) : W p l e R s m args below meth c H locs cells slots Q' g := fun T hT X => by
  obtain ⟨t, a, b⟩ := k T hT X
  exact ⟨t, a, hq t b⟩
theorem Go.mono {sc : Nat × (Nat → Int32)} {cl rd : Bool} {d bc bs : Nat} {y : MD} {pc : Nat} {ls st : List AV} {h : AH} {Q Q' : GO → AH → Prop} (hq : ∀ g h', Q g h' → Q' g h') (k : Go sc cl rd d bc bs y pc ls st h Q) : Go sc cl rd d bc bs y pc ls st h Q' := by
  intro p l e R s m args below meth c H locs cells slots mc ms D aC A ad ad0 n0 L S hC hDy
  refine ma_W_mono ?_ (k p l e R s m args below meth c H locs cells slots mc ms D aC A ad ad0 n0 L S hC hDy)
  rintro t ⟨o, h1, h2, h3, h4, h5, g, h', ad', h6, h7⟩
  exact ⟨o, h1, h2, h3, h4, h5, g, h', ad', hq _ _ h6, h7⟩
theorem Go.wide {sc : Nat × (Nat → Int32)} {cl rd : Bool} {d d' bc bs bc' bs' : Nat} {y : MD} {pc : Nat} {ls st : List AV} {h : AH} {Q : GO → AH → Prop} (k : Go sc cl rd d bc bs y pc ls st h Q) (hd : d ≤ d') (h1 : bc ≤ bc') (h2 : bs ≤ bs') : Go sc cl rd d' bc' bs' y pc ls st h Q := by
  intro p l e R s m args below meth c H locs cells slots mc ms D aC A ad ad0 n0 L S hC hDy
  refine k p l e R s m args below meth c H locs cells slots mc ms D aC A ad ad0 n0 L S hC ⟨?_, hDy.2⟩
  obtain ⟨⟨a1, a2, a3, a4, a5, a6⟩, -⟩ := hDy
  exact ⟨by omega, by omega, by omega, by omega, a5, a6⟩
/-- what is known of locals may be forgotten -/
theorem Go.locs {sc : Nat × (Nat → Int32)} {cl rd : Bool} {d bc bs : Nat} {y : MD} {pc : Nat} {ls ls' st : List AV} {h : AH} {Q : GO → AH → Prop} (hl : ∀ (k : Nat) (v : AV), ls'[k]? = some v → v = vU ∨ ls[k]? = some v) (k : Go sc cl rd d bc bs y pc ls' st h Q) : Go sc cl rd d bc bs y pc ls st h Q := by
  intro p l e R s m args below meth c H locs cells slots mc ms D aC A ad ad0 n0 L S hC hDy
  obtain ⟨a1, a2, a3, a4, a5, a6, a7, a8, a9⟩ := hDy
  exact k p l e R s m args below meth c H locs cells slots mc ms D aC A ad ad0 n0 L S hC ⟨a1, a2, a3, a4, a5, a6, ⟨a7.1, a7.2.1, fun j v hv => (hl j v hv).elim Or.inl (a7.2.2 j v)⟩, a8, a9⟩
/-- a place of the locals is stored to -/
def ma_all (L : Array Slot) : List (Nat × Value) := (List.range L.size).filterMap (fun (k : Nat) => match (L[k]? : Option Slot) with
  | some (Slot.val x) => some (k, x)
  | _ => none)
theorem ma_all_mem {L : Array Slot} {k : Nat} {x : Value} : (k, x) ∈ ma_all L ↔ L[k]? = some (.val x) := by
  constructor
  · intro h
    obtain ⟨j, hj, h2⟩ := List.mem_filterMap.mp h
    split at h2
    next y hy => cases h2; exact hy
    next => cases h2
  · intro h
    refine List.mem_filterMap.mpr ⟨k, List.mem_range.mpr (lv_lt h), ?_⟩
    simp [h]
theorem ma_all_has {ad : Nat → Nat → Nat} {n : Nat → Nat} {N : Nat} {ls : List AV} {L : Array Slot} (h : ma_LR ad n N ls L) : lv_has L N (ma_all L) := ⟨h.1, h.2.1, fun q hq => ma_all_mem.mp hq⟩
theorem ma_RV_cat {ad : Nat → Nat → Nat} {n : Nat → Nat} {v : AV} {x : Value} (hn : ma_nl v) (h : ma_RV ad n v x) : x.category = 1 := by
  rcases v with i | ⟨_ | r⟩ | z
  · cases h; rfl
  · cases h; rfl
  · rcases h with ⟨-, a, rfl⟩ | ⟨-, rfl⟩ | ⟨-, rfl⟩ <;> rfl
  · exact hn.elim
theorem ma_LR_set {ad : Nat → Nat → Nat} {n : Nat → Nat} {N i : Nat} {ls : List AV} {L L' : Array Slot} {v : AV} {x : Value} (h : ma_LR ad n N ls L) (hn : ma_nl v) (hv : ma_RV ad n v x) (h' : lv_has L' N ((i, x) :: (ma_all L).filter (fun q => !(q.1 == i) && !(q.1 + 1 == i && q.2.category == 2)))) : ma_LR ad n N (ls.set i v) L' := by
  refine ⟨h'.1, h'.2.1, fun k w hk => ?_⟩
  by_cases hki : k = i
  · subst hki
    have hlt : k < ls.length := by
      have := (List.getElem?_eq_some_iff.mp hk).1
      simpa using this
    rw [List.getElem?_set_self hlt] at hk
    cases hk
    exact Or.inr ⟨hn, x, h'.2.2 (k, x) List.mem_cons_self, hv⟩
  · rw [List.getElem?_set_ne (Ne.symm hki)] at hk
    rcases h.2.2 k w hk with q | ⟨q1, z, q2, q3⟩
    · exact Or.inl q
    · refine Or.inr ⟨q1, z, h'.2.2 (k, z) (List.mem_cons_of_mem _ (List.mem_filter.mpr ⟨ma_all_mem.mpr q2, ?_⟩)), q3⟩
      have hc := ma_RV_cat q1 q3
      simp [hki, hc]

theorem Go.iconst {sc : Nat × (Nat → Int32)} {cl rd : Bool} {d bc bs : Nat} {y : MD} {pc : Nat} {ls st : List AV} {h : AH} {Q : GO → AH → Prop} {n : Int} {v : Int32} (hd : decode y.2.1 pc = .ok (.iconst n, 1)) (hv : Int32.ofInt n = v) (k : Go sc cl rd d bc bs y (pc + 1) ls (vI v :: st) h Q) : Go sc cl rd d bc bs y pc ls st h Q := by
  intro p l e R s m args below meth c H locs cells slots mc ms D aC A ad ad0 n0 L S hC hDy
  obtain ⟨hx, hb, hml, hr, hown, hts, hlocks, hnm, hex, hK, hKa, hNc, hfl, hmH⟩ := id hC
  obtain ⟨hRm, hHR, hSX, hS, hA, hEx, hL, hSt, hCl⟩ := id hDy
  exact lv_iconst hx hb hd hv (k p l e R s m args below meth c H locs cells slots mc ms D aC A ad ad0 n0 L (.int v :: S) hC ⟨hRm, hHR, hSX, hS, hA, hEx, hL, ⟨_, _, rfl, rfl, hSt⟩, hCl⟩)

theorem Go.bipush {sc : Nat × (Nat → Int32)} {cl rd : Bool} {d bc bs : Nat} {y : MD} {pc : Nat} {ls st : List AV} {h : AH} {Q : GO → AH → Prop} {n : Int} {v : Int32} (hd : decode y.2.1 pc = .ok (.bipush n, 2)) (hv : (Int8.ofInt n).toInt32 = v) (k : Go sc cl rd d bc bs y (pc + 2) ls (vI v :: st) h Q) : Go sc cl rd d bc bs y pc ls st h Q := by
  intro p l e R s m args below meth c H locs cells slots mc ms D aC A ad ad0 n0 L S hC hDy
  obtain ⟨hx, hb, hml, hr, hown, hts, hlocks, hnm, hex, hK, hKa, hNc, hfl, hmH⟩ := id hC
  obtain ⟨hRm, hHR, hSX, hS, hA, hEx, hL, hSt, hCl⟩ := id hDy
  exact lv_bipush hx hb hd hv (k p l e R s m args below meth c H locs cells slots mc ms D aC A ad ad0 n0 L (.int v :: S) hC ⟨hRm, hHR, hSX, hS, hA, hEx, hL, ⟨_, _, rfl, rfl, hSt⟩, hCl⟩)

theorem Go.sipush {sc : Nat × (Nat → Int32)} {cl rd : Bool} {d bc bs : Nat} {y : MD} {pc : Nat} {ls st : List AV} {h : AH} {Q : GO → AH → Prop} {n : Int} {v : Int32} (hd : decode y.2.1 pc = .ok (.sipush n, 3)) (hv : (Int16.ofInt n).toInt32 = v) (k : Go sc cl rd d bc bs y (pc + 3) ls (vI v :: st) h Q) : Go sc cl rd d bc bs y pc ls st h Q := by
  intro p l e R s m args below meth c H locs cells slots mc ms D aC A ad ad0 n0 L S hC hDy
  obtain ⟨hx, hb, hml, hr, hown, hts, hlocks, hnm, hex, hK, hKa, hNc, hfl, hmH⟩ := id hC
  obtain ⟨hRm, hHR, hSX, hS, hA, hEx, hL, hSt, hCl⟩ := id hDy
  exact lv_sipush hx hb hd hv (k p l e R s m args below meth c H locs cells slots mc ms D aC A ad ad0 n0 L (.int v :: S) hC ⟨hRm, hHR, hSX, hS, hA, hEx, hL, ⟨_, _, rfl, rfl, hSt⟩, hCl⟩)

theorem Go.ldci {sc : Nat × (Nat → Int32)} {cl rd : Bool} {d bc bs : Nat} {y : MD} {pc : Nat} {ls st : List AV} {h : AH} {Q : GO → AH → Prop} {n : Nat} {v : Int32} (hd : decode y.2.1 pc = .ok (.ldc n, 2)) (hv : Jvm.Cond.constant y.1.cls n v ∈ maT) (k : Go sc cl rd d bc bs y (pc + 2) ls (vI v :: st) h Q) : Go sc cl rd d bc bs y pc ls st h Q := by
  intro p l e R s m args below meth c H locs cells slots mc ms D aC A ad ad0 n0 L S hC hDy
  obtain ⟨hx, hb, hml, hr, hown, hts, hlocks, hnm, hex, hK, hKa, hNc, hfl, hmH⟩ := id hC
  obtain ⟨hRm, hHR, hSX, hS, hA, hEx, hL, hSt, hCl⟩ := id hDy
  exact lv_ldc hx hb hown (hts _ hv) hd (k p l e R s m args below meth c H locs cells slots mc ms D aC A ad ad0 n0 L (.int v :: S) hC ⟨hRm, hHR, hSX, hS, hA, hEx, hL, ⟨_, _, rfl, rfl, hSt⟩, hCl⟩)

theorem Go.iload {sc : Nat × (Nat → Int32)} {cl rd : Bool} {d bc bs : Nat} {y : MD} {pc : Nat} {ls st : List AV} {h : AH} {Q : GO → AH → Prop} {i : Nat} {x : Int32} (hd : decode y.2.1 pc = .ok (.iload i, 2)) (hl : ls[i]? = some (vI x)) (k : Go sc cl rd d bc bs y (pc + 2) ls (vI x :: st) h Q) : Go sc cl rd d bc bs y pc ls st h Q := by
  intro p l e R s m args below meth c H locs cells slots mc ms D aC A ad ad0 n0 L S hC hDy
  obtain ⟨hx, hb, hml, hr, hown, hts, hlocks, hnm, hex, hK, hKa, hNc, hfl, hmH⟩ := id hC
  obtain ⟨hRm, hHR, hSX, hS, hA, hEx, hL, hSt, hCl⟩ := id hDy
  have hz : L[i]? = some (.val (.int x)) := by
    rcases hL.2.2 _ _ hl with q | ⟨-, z, q, rfl⟩
    · cases q
    · exact q
  exact lv_iload hx hb hd hz (k p l e R s m args below meth c H locs cells slots mc ms D aC A ad ad0 n0 L (.int x :: S) hC ⟨hRm, hHR, hSX, hS, hA, hEx, hL, ⟨_, _, rfl, rfl, hSt⟩, hCl⟩)

theorem Go.aload {sc : Nat × (Nat → Int32)} {cl rd : Bool} {d bc bs : Nat} {y : MD} {pc : Nat} {ls st : List AV} {h : AH} {Q : GO → AH → Prop} {i : Nat} {cc ii : Nat} (hd : decode y.2.1 pc = .ok (.aload i, 2)) (hl : ls[i]? = some (vO cc ii)) (hc : cc ≠ 98) (k : Go sc cl rd d bc bs y (pc + 2) ls (vO cc ii :: st) h Q) : Go sc cl rd d bc bs y pc ls st h Q := by
  intro p l e R s m args below meth c H locs cells slots mc ms D aC A ad ad0 n0 L S hC hDy
  obtain ⟨hx, hb, hml, hr, hown, hts, hlocks, hnm, hex, hK, hKa, hNc, hfl, hmH⟩ := id hC
  obtain ⟨hRm, hHR, hSX, hS, hA, hEx, hL, hSt, hCl⟩ := id hDy
  rcases hL.2.2 _ _ hl with q | ⟨-, z, hz, hv⟩
  · cases q; exact absurd rfl hc
  · have hv' : ∃ a, z = .ref a := by
      rcases hv with ⟨-, a, rfl⟩ | ⟨-, rfl⟩ | ⟨-, rfl⟩ <;> exact ⟨_, rfl⟩
    obtain ⟨a, rfl⟩ := hv'
    exact lv_aload hx hb hd hz (k p l e R s m args below meth c H locs cells slots mc ms D aC A ad ad0 n0 L (.ref a :: S) hC ⟨hRm, hHR, hSX, hS, hA, hEx, hL, ⟨_, _, rfl, hv, hSt⟩, hCl⟩)

theorem Go.iload_n {sc : Nat × (Nat → Int32)} {cl rd : Bool} {d bc bs : Nat} {y : MD} {pc : Nat} {ls st : List AV} {h : AH} {Q : GO → AH → Prop} {i : Fin 4} {x : Int32} (hd : decode y.2.1 pc = .ok (.iload_n i, 1)) (hl : ls[(i : Nat)]? = some (vI x)) (k : Go sc cl rd d bc bs y (pc + 1) ls (vI x :: st) h Q) : Go sc cl rd d bc bs y pc ls st h Q := by
  intro p l e R s m args below meth c H locs cells slots mc ms D aC A ad ad0 n0 L S hC hDy
  obtain ⟨hx, hb, hml, hr, hown, hts, hlocks, hnm, hex, hK, hKa, hNc, hfl, hmH⟩ := id hC
  obtain ⟨hRm, hHR, hSX, hS, hA, hEx, hL, hSt, hCl⟩ := id hDy
  have hz : L[(i : Nat)]? = some (.val (.int x)) := by
    rcases hL.2.2 _ _ hl with q | ⟨-, z, q, rfl⟩
    · cases q
    · exact q
  exact lv_iload_n hx hb hd rfl hz (k p l e R s m args below meth c H locs cells slots mc ms D aC A ad ad0 n0 L (.int x :: S) hC ⟨hRm, hHR, hSX, hS, hA, hEx, hL, ⟨_, _, rfl, rfl, hSt⟩, hCl⟩)

theorem Go.aload_n {sc : Nat × (Nat → Int32)} {cl rd : Bool} {d bc bs : Nat} {y : MD} {pc : Nat} {ls st : List AV} {h : AH} {Q : GO → AH → Prop} {i : Fin 4} {cc ii : Nat} (hd : decode y.2.1 pc = .ok (.aload_n i, 1)) (hl : ls[(i : Nat)]? = some (vO cc ii)) (hc : cc ≠ 98) (k : Go sc cl rd d bc bs y (pc + 1) ls (vO cc ii :: st) h Q) : Go sc cl rd d bc bs y pc ls st h Q := by
  intro p l e R s m args below meth c H locs cells slots mc ms D aC A ad ad0 n0 L S hC hDy
  obtain ⟨hx, hb, hml, hr, hown, hts, hlocks, hnm, hex, hK, hKa, hNc, hfl, hmH⟩ := id hC
  obtain ⟨hRm, hHR, hSX, hS, hA, hEx, hL, hSt, hCl⟩ := id hDy
  rcases hL.2.2 _ _ hl with q | ⟨-, z, hz, hv⟩
  · cases q; exact absurd rfl hc
  · have hv' : ∃ a, z = .ref a := by
      rcases hv with ⟨-, a, rfl⟩ | ⟨-, rfl⟩ | ⟨-, rfl⟩ <;> exact ⟨_, rfl⟩
    obtain ⟨a, rfl⟩ := hv'
    exact lv_aload_n hx hb hd rfl hz (k p l e R s m args below meth c H locs cells slots mc ms D aC A ad ad0 n0 L (.ref a :: S) hC ⟨hRm, hHR, hSX, hS, hA, hEx, hL, ⟨_, _, rfl, hv, hSt⟩, hCl⟩)

theorem Go.istore {sc : Nat × (Nat → Int32)} {cl rd : Bool} {d bc bs : Nat} {y : MD} {pc : Nat} {ls st : List AV} {h : AH} {Q : GO → AH → Prop} {i : Nat} {x : Int32} {ls' : List AV} (hd : decode y.2.1 pc = .ok (.istore i, 2)) (hi : i < y.2.2.1) (hl : ls.set i (vI x) = ls') (k : Go sc cl rd d bc bs y (pc + 2) ls' st h Q) : Go sc cl rd d bc bs y pc ls (vI x :: st) h Q := by
  intro p l e R s m args below meth c H locs cells slots mc ms D aC A ad ad0 n0 L S hC hDy
  obtain ⟨hx, hb, hml, hr, hown, hts, hlocks, hnm, hex, hK, hKa, hNc, hfl, hmH⟩ := id hC
  obtain ⟨hRm, hHR, hSX, hS, hA, hEx, hL, hSt, hCl⟩ := id hDy
  obtain ⟨z, S', rfl, rfl, hSt⟩ := hSt
  refine lv_istore hx hb hd (ma_all_has hL) hi rfl (fun L' hL' => ?_)
  subst hl
  exact k p l e R s m args below meth c H locs cells slots mc ms D aC A ad ad0 n0 L' S' hC ⟨hRm, hHR, hSX, hS, hA, hEx, ma_LR_set hL trivial rfl hL', hSt, hCl⟩

theorem Go.astore {sc : Nat × (Nat → Int32)} {cl rd : Bool} {d bc bs : Nat} {y : MD} {pc : Nat} {ls st : List AV} {h : AH} {Q : GO → AH → Prop} {i : Nat} {cc ii : Nat} {ls' : List AV} (hd : decode y.2.1 pc = .ok (.astore i, 2)) (hi : i < y.2.2.1) (hl : ls.set i (vO cc ii) = ls') (k : Go sc cl rd d bc bs y (pc + 2) ls' st h Q) : Go sc cl rd d bc bs y pc ls (vO cc ii :: st) h Q := by
  intro p l e R s m args below meth c H locs cells slots mc ms D aC A ad ad0 n0 L S hC hDy
  obtain ⟨hx, hb, hml, hr, hown, hts, hlocks, hnm, hex, hK, hKa, hNc, hfl, hmH⟩ := id hC
  obtain ⟨hRm, hHR, hSX, hS, hA, hEx, hL, hSt, hCl⟩ := id hDy
  obtain ⟨z, S', rfl, hv, hSt⟩ := hSt
  have hv' : ∃ a, z = .ref a := by
    rcases hv with ⟨-, a, rfl⟩ | ⟨-, rfl⟩ | ⟨-, rfl⟩ <;> exact ⟨_, rfl⟩
  obtain ⟨a, rfl⟩ := hv'
  refine lv_astore hx hb hd (ma_all_has hL) hi rfl (fun L' hL' => ?_)
  subst hl
  exact k p l e R s m args below meth c H locs cells slots mc ms D aC A ad ad0 n0 L' S' hC ⟨hRm, hHR, hSX, hS, hA, hEx, ma_LR_set hL trivial hv hL', hSt, hCl⟩

theorem Go.istore_n {sc : Nat × (Nat → Int32)} {cl rd : Bool} {d bc bs : Nat} {y : MD} {pc : Nat} {ls st : List AV} {h : AH} {Q : GO → AH → Prop} {i : Fin 4} {x : Int32} {ls' : List AV} (hd : decode y.2.1 pc = .ok (.istore_n i, 1)) (hi : (i : Nat) < y.2.2.1) (hl : ls.set (i : Nat) (vI x) = ls') (k : Go sc cl rd d bc bs y (pc + 1) ls' st h Q) : Go sc cl rd d bc bs y pc ls (vI x :: st) h Q := by
  intro p l e R s m args below meth c H locs cells slots mc ms D aC A ad ad0 n0 L S hC hDy
  obtain ⟨hx, hb, hml, hr, hown, hts, hlocks, hnm, hex, hK, hKa, hNc, hfl, hmH⟩ := id hC
  obtain ⟨hRm, hHR, hSX, hS, hA, hEx, hL, hSt, hCl⟩ := id hDy
  obtain ⟨z, S', rfl, rfl, hSt⟩ := hSt
  refine lv_istore_n hx hb hd rfl (ma_all_has hL) hi rfl (fun L' hL' => ?_)
  subst hl
  exact k p l e R s m args below meth c H locs cells slots mc ms D aC A ad ad0 n0 L' S' hC ⟨hRm, hHR, hSX, hS, hA, hEx, ma_LR_set hL trivial rfl hL', hSt, hCl⟩

theorem Go.astore_n {sc : Nat × (Nat → Int32)} {cl rd : Bool} {d bc bs : Nat} {y : MD} {pc : Nat} {ls st : List AV} {h : AH} {Q : GO → AH → Prop} {i : Fin 4} {cc ii : Nat} {ls' : List AV} (hd : decode y.2.1 pc = .ok (.astore_n i, 1)) (hi : (i : Nat) < y.2.2.1) (hl : ls.set (i : Nat) (vO cc ii) = ls') (k : Go sc cl rd d bc bs y (pc + 1) ls' st h Q) : Go sc cl rd d bc bs y pc ls (vO cc ii :: st) h Q := by
  intro p l e R s m args below meth c H locs cells slots mc ms D aC A ad ad0 n0 L S hC hDy
  obtain ⟨hx, hb, hml, hr, hown, hts, hlocks, hnm, hex, hK, hKa, hNc, hfl, hmH⟩ := id hC
  obtain ⟨hRm, hHR, hSX, hS, hA, hEx, hL, hSt, hCl⟩ := id hDy
  obtain ⟨z, S', rfl, hv, hSt⟩ := hSt
  have hv' : ∃ a, z = .ref a := by
    rcases hv with ⟨-, a, rfl⟩ | ⟨-, rfl⟩ | ⟨-, rfl⟩ <;> exact ⟨_, rfl⟩
  obtain ⟨a, rfl⟩ := hv'
  refine lv_astore_n hx hb hd rfl (ma_all_has hL) hi rfl (fun L' hL' => ?_)
  subst hl
  exact k p l e R s m args below meth c H locs cells slots mc ms D aC A ad ad0 n0 L' S' hC ⟨hRm, hHR, hSX, hS, hA, hEx, ma_LR_set hL trivial hv hL', hSt, hCl⟩

theorem Go.iinc {sc : Nat × (Nat → Int32)} {cl rd : Bool} {d bc bs : Nat} {y : MD} {pc : Nat} {ls st : List AV} {h : AH} {Q : GO → AH → Prop} {i : Nat} {n : Int} {x v : Int32} {ls' : List AV} (hd : decode y.2.1 pc = .ok (.iinc i n, 3)) (hi : i < y.2.2.1) (hl0 : ls[i]? = some (vI x)) (hv : x + Int32.ofInt n = v) (hl : ls.set i (vI v) = ls') (k : Go sc cl rd d bc bs y (pc + 3) ls' st h Q) : Go sc cl rd d bc bs y pc ls st h Q := by
  intro p l e R s m args below meth c H locs cells slots mc ms D aC A ad ad0 n0 L S hC hDy
  obtain ⟨hx, hb, hml, hr, hown, hts, hlocks, hnm, hex, hK, hKa, hNc, hfl, hmH⟩ := id hC
  obtain ⟨hRm, hHR, hSX, hS, hA, hEx, hL, hSt, hCl⟩ := id hDy
  have hz : L[i]? = some (.val (.int x)) := by
    rcases hL.2.2 _ _ hl0 with q | ⟨-, z, q, rfl⟩
    · cases q
    · exact q
  obtain ⟨j, hj⟩ := List.getElem?_of_mem (ma_all_mem.mpr hz)
  refine lv_iinc hx hb hd (ma_all_has hL) hj hv hi rfl (fun L' hL' => ?_)
  subst hl
  exact k p l e R s m args below meth c H locs cells slots mc ms D aC A ad ad0 n0 L' S hC ⟨hRm, hHR, hSX, hS, hA, hEx, ma_LR_set hL trivial rfl hL', hSt, hCl⟩

theorem Go.iadd {sc : Nat × (Nat → Int32)} {cl rd : Bool} {d bc bs : Nat} {y : MD} {pc : Nat} {ls st : List AV} {h : AH} {Q : GO → AH → Prop} {x y' : Int32} (hd : decode y.2.1 pc = .ok (.iadd, 1)) (k : Go sc cl rd d bc bs y (pc + 1) ls (vI (x + y') :: st) h Q) : Go sc cl rd d bc bs y pc ls (vI y' :: vI x :: st) h Q := by
  intro p l e R s m args below meth c H locs cells slots mc ms D aC A ad ad0 n0 L S hC hDy
  obtain ⟨hx, hb, hml, hr, hown, hts, hlocks, hnm, hex, hK, hKa, hNc, hfl, hmH⟩ := id hC
  obtain ⟨hRm, hHR, hSX, hS, hA, hEx, hL, hSt, hCl⟩ := id hDy
  obtain ⟨z1, S1, rfl, rfl, z2, S2, rfl, rfl, hSt⟩ := hSt
  exact lv_iadd hx hb hd (k p l e R s m args below meth c H locs cells slots mc ms D aC A ad ad0 n0 L (.int (x + y') :: S2) hC ⟨hRm, hHR, hSX, hS, hA, hEx, hL, ⟨_, _, rfl, rfl, hSt⟩, hCl⟩)

theorem Go.isub {sc : Nat × (Nat → Int32)} {cl rd : Bool} {d bc bs : Nat} {y : MD} {pc : Nat} {ls st : List AV} {h : AH} {Q : GO → AH → Prop} {x y' : Int32} (hd : decode y.2.1 pc = .ok (.isub, 1)) (k : Go sc cl rd d bc bs y (pc + 1) ls (vI (x - y') :: st) h Q) : Go sc cl rd d bc bs y pc ls (vI y' :: vI x :: st) h Q := by
  intro p l e R s m args below meth c H locs cells slots mc ms D aC A ad ad0 n0 L S hC hDy
  obtain ⟨hx, hb, hml, hr, hown, hts, hlocks, hnm, hex, hK, hKa, hNc, hfl, hmH⟩ := id hC
  obtain ⟨hRm, hHR, hSX, hS, hA, hEx, hL, hSt, hCl⟩ := id hDy
  obtain ⟨z1, S1, rfl, rfl, z2, S2, rfl, rfl, hSt⟩ := hSt
  exact lv_isub hx hb hd (k p l e R s m args below meth c H locs cells slots mc ms D aC A ad ad0 n0 L (.int (x - y') :: S2) hC ⟨hRm, hHR, hSX, hS, hA, hEx, hL, ⟨_, _, rfl, rfl, hSt⟩, hCl⟩)

theorem Go.imul {sc : Nat × (Nat → Int32)} {cl rd : Bool} {d bc bs : Nat} {y : MD} {pc : Nat} {ls st : List AV} {h : AH} {Q : GO → AH → Prop} {x y' : Int32} (hd : decode y.2.1 pc = .ok (.imul, 1)) (k : Go sc cl rd d bc bs y (pc + 1) ls (vI (x * y') :: st) h Q) : Go sc cl rd d bc bs y pc ls (vI y' :: vI x :: st) h Q := by
  intro p l e R s m args below meth c H locs cells slots mc ms D aC A ad ad0 n0 L S hC hDy
  obtain ⟨hx, hb, hml, hr, hown, hts, hlocks, hnm, hex, hK, hKa, hNc, hfl, hmH⟩ := id hC
  obtain ⟨hRm, hHR, hSX, hS, hA, hEx, hL, hSt, hCl⟩ := id hDy
  obtain ⟨z1, S1, rfl, rfl, z2, S2, rfl, rfl, hSt⟩ := hSt
  exact lv_imul hx hb hd (k p l e R s m args below meth c H locs cells slots mc ms D aC A ad ad0 n0 L (.int (x * y') :: S2) hC ⟨hRm, hHR, hSX, hS, hA, hEx, hL, ⟨_, _, rfl, rfl, hSt⟩, hCl⟩)

theorem Go.iand {sc : Nat × (Nat → Int32)} {cl rd : Bool} {d bc bs : Nat} {y : MD} {pc : Nat} {ls st : List AV} {h : AH} {Q : GO → AH → Prop} {x y' : Int32} (hd : decode y.2.1 pc = .ok (.iand, 1)) (k : Go sc cl rd d bc bs y (pc + 1) ls (vI (x &&& y') :: st) h Q) : Go sc cl rd d bc bs y pc ls (vI y' :: vI x :: st) h Q := by
  intro p l e R s m args below meth c H locs cells slots mc ms D aC A ad ad0 n0 L S hC hDy
  obtain ⟨hx, hb, hml, hr, hown, hts, hlocks, hnm, hex, hK, hKa, hNc, hfl, hmH⟩ := id hC
  obtain ⟨hRm, hHR, hSX, hS, hA, hEx, hL, hSt, hCl⟩ := id hDy
  obtain ⟨z1, S1, rfl, rfl, z2, S2, rfl, rfl, hSt⟩ := hSt
  exact lv_iand hx hb hd (k p l e R s m args below meth c H locs cells slots mc ms D aC A ad ad0 n0 L (.int (x &&& y') :: S2) hC ⟨hRm, hHR, hSX, hS, hA, hEx, hL, ⟨_, _, rfl, rfl, hSt⟩, hCl⟩)

theorem Go.ior {sc : Nat × (Nat → Int32)} {cl rd : Bool} {d bc bs : Nat} {y : MD} {pc : Nat} {ls st : List AV} {h : AH} {Q : GO → AH → Prop} {x y' : Int32} (hd : decode y.2.1 pc = .ok (.ior, 1)) (k : Go sc cl rd d bc bs y (pc + 1) ls (vI (x ||| y') :: st) h Q) : Go sc cl rd d bc bs y pc ls (vI y' :: vI x :: st) h Q := by
  intro p l e R s m args below meth c H locs cells slots mc ms D aC A ad ad0 n0 L S hC hDy
  obtain ⟨hx, hb, hml, hr, hown, hts, hlocks, hnm, hex, hK, hKa, hNc, hfl, hmH⟩ := id hC
  obtain ⟨hRm, hHR, hSX, hS, hA, hEx, hL, hSt, hCl⟩ := id hDy
  obtain ⟨z1, S1, rfl, rfl, z2, S2, rfl, rfl, hSt⟩ := hSt
  exact lv_ior hx hb hd (k p l e R s m args below meth c H locs cells slots mc ms D aC A ad ad0 n0 L (.int (x ||| y') :: S2) hC ⟨hRm, hHR, hSX, hS, hA, hEx, hL, ⟨_, _, rfl, rfl, hSt⟩, hCl⟩)

theorem Go.ixor {sc : Nat × (Nat → Int32)} {cl rd : Bool} {d bc bs : Nat} {y : MD} {pc : Nat} {ls st : List AV} {h : AH} {Q : GO → AH → Prop} {x y' : Int32} (hd : decode y.2.1 pc = .ok (.ixor, 1)) (k : Go sc cl rd d bc bs y (pc + 1) ls (vI (x ^^^ y') :: st) h Q) : Go sc cl rd d bc bs y pc ls (vI y' :: vI x :: st) h Q := by
  intro p l e R s m args below meth c H locs cells slots mc ms D aC A ad ad0 n0 L S hC hDy
  obtain ⟨hx, hb, hml, hr, hown, hts, hlocks, hnm, hex, hK, hKa, hNc, hfl, hmH⟩ := id hC
  obtain ⟨hRm, hHR, hSX, hS, hA, hEx, hL, hSt, hCl⟩ := id hDy
  obtain ⟨z1, S1, rfl, rfl, z2, S2, rfl, rfl, hSt⟩ := hSt
  exact lv_ixor hx hb hd (k p l e R s m args below meth c H locs cells slots mc ms D aC A ad ad0 n0 L (.int (x ^^^ y') :: S2) hC ⟨hRm, hHR, hSX, hS, hA, hEx, hL, ⟨_, _, rfl, rfl, hSt⟩, hCl⟩)

theorem Go.ishl {sc : Nat × (Nat → Int32)} {cl rd : Bool} {d bc bs : Nat} {y : MD} {pc : Nat} {ls st : List AV} {h : AH} {Q : GO → AH → Prop} {x y' : Int32} (hd : decode y.2.1 pc = .ok (.ishl, 1)) (k : Go sc cl rd d bc bs y (pc + 1) ls (vI (x <<< (y' &&& 31)) :: st) h Q) : Go sc cl rd d bc bs y pc ls (vI y' :: vI x :: st) h Q := by
  intro p l e R s m args below meth c H locs cells slots mc ms D aC A ad ad0 n0 L S hC hDy
  obtain ⟨hx, hb, hml, hr, hown, hts, hlocks, hnm, hex, hK, hKa, hNc, hfl, hmH⟩ := id hC
  obtain ⟨hRm, hHR, hSX, hS, hA, hEx, hL, hSt, hCl⟩ := id hDy
  obtain ⟨z1, S1, rfl, rfl, z2, S2, rfl, rfl, hSt⟩ := hSt
  exact lv_ishl hx hb hd (k p l e R s m args below meth c H locs cells slots mc ms D aC A ad ad0 n0 L (.int (x <<< (y' &&& 31)) :: S2) hC ⟨hRm, hHR, hSX, hS, hA, hEx, hL, ⟨_, _, rfl, rfl, hSt⟩, hCl⟩)

theorem Go.i2l {sc : Nat × (Nat → Int32)} {cl rd : Bool} {d bc bs : Nat} {y : MD} {pc : Nat} {ls st : List AV} {h : AH} {Q : GO → AH → Prop} {x : Int32} (hd : decode y.2.1 pc = .ok (.i2l, 1)) (k : Go sc cl rd d bc bs y (pc + 1) ls (vL x.toInt64 :: st) h Q) : Go sc cl rd d bc bs y pc ls (vI x :: st) h Q := by
  intro p l e R s m args below meth c H locs cells slots mc ms D aC A ad ad0 n0 L S hC hDy
  obtain ⟨hx, hb, hml, hr, hown, hts, hlocks, hnm, hex, hK, hKa, hNc, hfl, hmH⟩ := id hC
  obtain ⟨hRm, hHR, hSX, hS, hA, hEx, hL, hSt, hCl⟩ := id hDy
  obtain ⟨z1, S1, rfl, rfl, hSt⟩ := hSt
  exact lv_i2l hx hb hd rfl (k p l e R s m args below meth c H locs cells slots mc ms D aC A ad ad0 n0 L (.long x.toInt64 :: S1) hC ⟨hRm, hHR, hSX, hS, hA, hEx, hL, ⟨_, _, rfl, rfl, hSt⟩, hCl⟩)

theorem Go.dup {sc : Nat × (Nat → Int32)} {cl rd : Bool} {d bc bs : Nat} {y : MD} {pc : Nat} {ls st : List AV} {h : AH} {Q : GO → AH → Prop} {v : AV} (hn : ma_nl v) (hd : decode y.2.1 pc = .ok (.dup, 1)) (k : Go sc cl rd d bc bs y (pc + 1) ls (v :: v :: st) h Q) : Go sc cl rd d bc bs y pc ls (v :: st) h Q := by
  intro p l e R s m args below meth c H locs cells slots mc ms D aC A ad ad0 n0 L S hC hDy
  obtain ⟨hx, hb, hml, hr, hown, hts, hlocks, hnm, hex, hK, hKa, hNc, hfl, hmH⟩ := id hC
  obtain ⟨hRm, hHR, hSX, hS, hA, hEx, hL, hSt, hCl⟩ := id hDy
  obtain ⟨z1, S1, rfl, hv, hSt⟩ := hSt
  exact lv_dup hx hb hd (ma_RV_cat hn hv) (k p l e R s m args below meth c H locs cells slots mc ms D aC A ad ad0 n0 L (z1 :: z1 :: S1) hC ⟨hRm, hHR, hSX, hS, hA, hEx, hL, ⟨_, _, rfl, hv, _, _, rfl, hv, hSt⟩, hCl⟩)

theorem Go.dup2 {sc : Nat × (Nat → Int32)} {cl rd : Bool} {d bc bs : Nat} {y : MD} {pc : Nat} {ls st : List AV} {h : AH} {Q : GO → AH → Prop} {v w : AV} (hn : ma_nl v) (hm : ma_nl w) (hd : decode y.2.1 pc = .ok (.dup2, 1)) (k : Go sc cl rd d bc bs y (pc + 1) ls (v :: w :: v :: w :: st) h Q) : Go sc cl rd d bc bs y pc ls (v :: w :: st) h Q := by
  intro p l e R s m args below meth c H locs cells slots mc ms D aC A ad ad0 n0 L S hC hDy
  obtain ⟨hx, hb, hml, hr, hown, hts, hlocks, hnm, hex, hK, hKa, hNc, hfl, hmH⟩ := id hC
  obtain ⟨hRm, hHR, hSX, hS, hA, hEx, hL, hSt, hCl⟩ := id hDy
  obtain ⟨z1, S1, rfl, hv, z2, S2, rfl, hw, hSt⟩ := hSt
  exact lv_dup2_11 hx hb hd (ma_RV_cat hn hv) (ma_RV_cat hm hw) (k p l e R s m args below meth c H locs cells slots mc ms D aC A ad ad0 n0 L (z1 :: z2 :: z1 :: z2 :: S2) hC ⟨hRm, hHR, hSX, hS, hA, hEx, hL, ⟨_, _, rfl, hv, _, _, rfl, hw, _, _, rfl, hv, _, _, rfl, hw, hSt⟩, hCl⟩)

theorem Go.pop {sc : Nat × (Nat → Int32)} {cl rd : Bool} {d bc bs : Nat} {y : MD} {pc : Nat} {ls st : List AV} {h : AH} {Q : GO → AH → Prop} {v : AV} (hn : ma_nl v) (hd : decode y.2.1 pc = .ok (.pop, 1)) (k : Go sc cl rd d bc bs y (pc + 1) ls st h Q) : Go sc cl rd d bc bs y pc ls (v :: st) h Q := by
  intro p l e R s m args below meth c H locs cells slots mc ms D aC A ad ad0 n0 L S hC hDy
  obtain ⟨hx, hb, hml, hr, hown, hts, hlocks, hnm, hex, hK, hKa, hNc, hfl, hmH⟩ := id hC
  obtain ⟨hRm, hHR, hSX, hS, hA, hEx, hL, hSt, hCl⟩ := id hDy
  obtain ⟨z1, S1, rfl, hv, hSt⟩ := hSt
  exact lv_pop hx hb hd (ma_RV_cat hn hv) (k p l e R s m args below meth c H locs cells slots mc ms D aC A ad ad0 n0 L S1 hC ⟨hRm, hHR, hSX, hS, hA, hEx, hL, hSt, hCl⟩)

theorem Go.if_eq {sc : Nat × (Nat → Int32)} {cl rd : Bool} {d bc bs : Nat} {y : MD} {pc : Nat} {ls st : List AV} {h : AH} {Q : GO → AH → Prop} {x : Int32} {off : Int} {tgt : Nat} (hd : decode y.2.1 pc = .ok (.ifCond .eq off, 3)) (ht : (pc : Int) + off = (tgt : Int)) (k : x = 0 → Go sc cl rd d bc bs y tgt ls st h Q) (k2 : ¬ (x = 0) → Go sc cl rd d bc bs y (pc + 3) ls st h Q) : Go sc cl rd d bc bs y pc ls (vI x :: st) h Q := by
  intro p l e R s m args below meth c H locs cells slots mc ms D aC A ad ad0 n0 L S hC hDy
  obtain ⟨hx, hb, hml, hr, hown, hts, hlocks, hnm, hex, hK, hKa, hNc, hfl, hmH⟩ := id hC
  obtain ⟨hRm, hHR, hSX, hS, hA, hEx, hL, hSt, hCl⟩ := id hDy
  obtain ⟨z1, S1, rfl, rfl, hSt⟩ := hSt
  exact lv_if_eq hx hb hd ht (fun q => k q p l e R s m args below meth c H locs cells slots mc ms D aC A ad ad0 n0 L S1 hC ⟨hRm, hHR, hSX, hS, hA, hEx, hL, hSt, hCl⟩) (fun q => k2 q p l e R s m args below meth c H locs cells slots mc ms D aC A ad ad0 n0 L S1 hC ⟨hRm, hHR, hSX, hS, hA, hEx, hL, hSt, hCl⟩)

theorem Go.icmp_eq {sc : Nat × (Nat → Int32)} {cl rd : Bool} {d bc bs : Nat} {y : MD} {pc : Nat} {ls st : List AV} {h : AH} {Q : GO → AH → Prop} {x y' : Int32} {off : Int} {tgt : Nat} (hd : decode y.2.1 pc = .ok (.if_icmp .eq off, 3)) (ht : (pc : Int) + off = (tgt : Int)) (k : x = y' → Go sc cl rd d bc bs y tgt ls st h Q) (k2 : ¬ (x = y') → Go sc cl rd d bc bs y (pc + 3) ls st h Q) : Go sc cl rd d bc bs y pc ls (vI y' :: vI x :: st) h Q := by
  intro p l e R s m args below meth c H locs cells slots mc ms D aC A ad ad0 n0 L S hC hDy
  obtain ⟨hx, hb, hml, hr, hown, hts, hlocks, hnm, hex, hK, hKa, hNc, hfl, hmH⟩ := id hC
  obtain ⟨hRm, hHR, hSX, hS, hA, hEx, hL, hSt, hCl⟩ := id hDy
  obtain ⟨z1, S1, rfl, rfl, z2, S2, rfl, rfl, hSt⟩ := hSt
  exact lv_icmp_eq hx hb hd ht (fun q => k q p l e R s m args below meth c H locs cells slots mc ms D aC A ad ad0 n0 L S2 hC ⟨hRm, hHR, hSX, hS, hA, hEx, hL, hSt, hCl⟩) (fun q => k2 q p l e R s m args below meth c H locs cells slots mc ms D aC A ad ad0 n0 L S2 hC ⟨hRm, hHR, hSX, hS, hA, hEx, hL, hSt, hCl⟩)

theorem Go.if_ne {sc : Nat × (Nat → Int32)} {cl rd : Bool} {d bc bs : Nat} {y : MD} {pc : Nat} {ls st : List AV} {h : AH} {Q : GO → AH → Prop} {x : Int32} {off : Int} {tgt : Nat} (hd : decode y.2.1 pc = .ok (.ifCond .ne off, 3)) (ht : (pc : Int) + off = (tgt : Int)) (k : ¬ x = 0 → Go sc cl rd d bc bs y tgt ls st h Q) (k2 : x = 0 → Go sc cl rd d bc bs y (pc + 3) ls st h Q) : Go sc cl rd d bc bs y pc ls (vI x :: st) h Q := by
  intro p l e R s m args below meth c H locs cells slots mc ms D aC A ad ad0 n0 L S hC hDy
  obtain ⟨hx, hb, hml, hr, hown, hts, hlocks, hnm, hex, hK, hKa, hNc, hfl, hmH⟩ := id hC
  obtain ⟨hRm, hHR, hSX, hS, hA, hEx, hL, hSt, hCl⟩ := id hDy
  obtain ⟨z1, S1, rfl, rfl, hSt⟩ := hSt
  exact lv_if_ne hx hb hd ht (fun q => k q p l e R s m args below meth c H locs cells slots mc ms D aC A ad ad0 n0 L S1 hC ⟨hRm, hHR, hSX, hS, hA, hEx, hL, hSt, hCl⟩) (fun q => k2 q p l e R s m args below meth c H locs cells slots mc ms D aC A ad ad0 n0 L S1 hC ⟨hRm, hHR, hSX, hS, hA, hEx, hL, hSt, hCl⟩)

theorem Go.icmp_ne {sc : Nat × (Nat → Int32)} {cl rd : Bool} {d bc bs : Nat} {y : MD} {pc : Nat} {ls st : List AV} {h : AH} {Q : GO → AH → Prop} {x y' : Int32} {off : Int} {tgt : Nat} (hd : decode y.2.1 pc = .ok (.if_icmp .ne off, 3)) (ht : (pc : Int) + off = (tgt : Int)) (k : ¬ x = y' → Go sc cl rd d bc bs y tgt ls st h Q) (k2 : x = y' → Go sc cl rd d bc bs y (pc + 3) ls st h Q) : Go sc cl rd d bc bs y pc ls (vI y' :: vI x :: st) h Q := by
  intro p l e R s m args below meth c H locs cells slots mc ms D aC A ad ad0 n0 L S hC hDy
  obtain ⟨hx, hb, hml, hr, hown, hts, hlocks, hnm, hex, hK, hKa, hNc, hfl, hmH⟩ := id hC
  obtain ⟨hRm, hHR, hSX, hS, hA, hEx, hL, hSt, hCl⟩ := id hDy
  obtain ⟨z1, S1, rfl, rfl, z2, S2, rfl, rfl, hSt⟩ := hSt
  exact lv_icmp_ne hx hb hd ht (fun q => k q p l e R s m args below meth c H locs cells slots mc ms D aC A ad ad0 n0 L S2 hC ⟨hRm, hHR, hSX, hS, hA, hEx, hL, hSt, hCl⟩) (fun q => k2 q p l e R s m args below meth c H locs cells slots mc ms D aC A ad ad0 n0 L S2 hC ⟨hRm, hHR, hSX, hS, hA, hEx, hL, hSt, hCl⟩)

theorem Go.if_lt {sc : Nat × (Nat → Int32)} {cl rd : Bool} {d bc bs : Nat} {y : MD} {pc : Nat} {ls st : List AV} {h : AH} {Q : GO → AH → Prop} {x : Int32} {off : Int} {tgt : Nat} (hd : decode y.2.1 pc = .ok (.ifCond .lt off, 3)) (ht : (pc : Int) + off = (tgt : Int)) (k : x < 0 → Go sc cl rd d bc bs y tgt ls st h Q) (k2 : ¬ (x < 0) → Go sc cl rd d bc bs y (pc + 3) ls st h Q) : Go sc cl rd d bc bs y pc ls (vI x :: st) h Q := by
  intro p l e R s m args below meth c H locs cells slots mc ms D aC A ad ad0 n0 L S hC hDy
  obtain ⟨hx, hb, hml, hr, hown, hts, hlocks, hnm, hex, hK, hKa, hNc, hfl, hmH⟩ := id hC
  obtain ⟨hRm, hHR, hSX, hS, hA, hEx, hL, hSt, hCl⟩ := id hDy
  obtain ⟨z1, S1, rfl, rfl, hSt⟩ := hSt
  exact lv_if_lt hx hb hd ht (fun q => k q p l e R s m args below meth c H locs cells slots mc ms D aC A ad ad0 n0 L S1 hC ⟨hRm, hHR, hSX, hS, hA, hEx, hL, hSt, hCl⟩) (fun q => k2 q p l e R s m args below meth c H locs cells slots mc ms D aC A ad ad0 n0 L S1 hC ⟨hRm, hHR, hSX, hS, hA, hEx, hL, hSt, hCl⟩)

theorem Go.icmp_lt {sc : Nat × (Nat → Int32)} {cl rd : Bool} {d bc bs : Nat} {y : MD} {pc : Nat} {ls st : List AV} {h : AH} {Q : GO → AH → Prop} {x y' : Int32} {off : Int} {tgt : Nat} (hd : decode y.2.1 pc = .ok (.if_icmp .lt off, 3)) (ht : (pc : Int) + off = (tgt : Int)) (k : x < y' → Go sc cl rd d bc bs y tgt ls st h Q) (k2 : ¬ (x < y') → Go sc cl rd d bc bs y (pc + 3) ls st h Q) : Go sc cl rd d bc bs y pc ls (vI y' :: vI x :: st) h Q := by
  intro p l e R s m args below meth c H locs cells slots mc ms D aC A ad ad0 n0 L S hC hDy
  obtain ⟨hx, hb, hml, hr, hown, hts, hlocks, hnm, hex, hK, hKa, hNc, hfl, hmH⟩ := id hC
  obtain ⟨hRm, hHR, hSX, hS, hA, hEx, hL, hSt, hCl⟩ := id hDy
  obtain ⟨z1, S1, rfl, rfl, z2, S2, rfl, rfl, hSt⟩ := hSt
  exact lv_icmp_lt hx hb hd ht (fun q => k q p l e R s m args below meth c H locs cells slots mc ms D aC A ad ad0 n0 L S2 hC ⟨hRm, hHR, hSX, hS, hA, hEx, hL, hSt, hCl⟩) (fun q => k2 q p l e R s m args below meth c H locs cells slots mc ms D aC A ad ad0 n0 L S2 hC ⟨hRm, hHR, hSX, hS, hA, hEx, hL, hSt, hCl⟩)

theorem Go.if_ge {sc : Nat × (Nat → Int32)} {cl rd : Bool} {d bc bs : Nat} {y : MD} {pc : Nat} {ls st : List AV} {h : AH} {Q : GO → AH → Prop} {x : Int32} {off : Int} {tgt : Nat} (hd : decode y.2.1 pc = .ok (.ifCond .ge off, 3)) (ht : (pc : Int) + off = (tgt : Int)) (k : 0 ≤ x → Go sc cl rd d bc bs y tgt ls st h Q) (k2 : ¬ (0 ≤ x) → Go sc cl rd d bc bs y (pc + 3) ls st h Q) : Go sc cl rd d bc bs y pc ls (vI x :: st) h Q := by
  intro p l e R s m args below meth c H locs cells slots mc ms D aC A ad ad0 n0 L S hC hDy
  obtain ⟨hx, hb, hml, hr, hown, hts, hlocks, hnm, hex, hK, hKa, hNc, hfl, hmH⟩ := id hC
  obtain ⟨hRm, hHR, hSX, hS, hA, hEx, hL, hSt, hCl⟩ := id hDy
  obtain ⟨z1, S1, rfl, rfl, hSt⟩ := hSt
  exact lv_if_ge hx hb hd ht (fun q => k q p l e R s m args below meth c H locs cells slots mc ms D aC A ad ad0 n0 L S1 hC ⟨hRm, hHR, hSX, hS, hA, hEx, hL, hSt, hCl⟩) (fun q => k2 q p l e R s m args below meth c H locs cells slots mc ms D aC A ad ad0 n0 L S1 hC ⟨hRm, hHR, hSX, hS, hA, hEx, hL, hSt, hCl⟩)

theorem Go.icmp_ge {sc : Nat × (Nat → Int32)} {cl rd : Bool} {d bc bs : Nat} {y : MD} {pc : Nat} {ls st : List AV} {h : AH} {Q : GO → AH → Prop} {x y' : Int32} {off : Int} {tgt : Nat} (hd : decode y.2.1 pc = .ok (.if_icmp .ge off, 3)) (ht : (pc : Int) + off = (tgt : Int)) (k : y' ≤ x → Go sc cl rd d bc bs y tgt ls st h Q) (k2 : ¬ (y' ≤ x) → Go sc cl rd d bc bs y (pc + 3) ls st h Q) : Go sc cl rd d bc bs y pc ls (vI y' :: vI x :: st) h Q := by
  intro p l e R s m args below meth c H locs cells slots mc ms D aC A ad ad0 n0 L S hC hDy
  obtain ⟨hx, hb, hml, hr, hown, hts, hlocks, hnm, hex, hK, hKa, hNc, hfl, hmH⟩ := id hC
  obtain ⟨hRm, hHR, hSX, hS, hA, hEx, hL, hSt, hCl⟩ := id hDy
  obtain ⟨z1, S1, rfl, rfl, z2, S2, rfl, rfl, hSt⟩ := hSt
  exact lv_icmp_ge hx hb hd ht (fun q => k q p l e R s m args below meth c H locs cells slots mc ms D aC A ad ad0 n0 L S2 hC ⟨hRm, hHR, hSX, hS, hA, hEx, hL, hSt, hCl⟩) (fun q => k2 q p l e R s m args below meth c H locs cells slots mc ms D aC A ad ad0 n0 L S2 hC ⟨hRm, hHR, hSX, hS, hA, hEx, hL, hSt, hCl⟩)

theorem Go.if_gt {sc : Nat × (Nat → Int32)} {cl rd : Bool} {d bc bs : Nat} {y : MD} {pc : Nat} {ls st : List AV} {h : AH} {Q : GO → AH → Prop} {x : Int32} {off : Int} {tgt : Nat} (hd : decode y.2.1 pc = .ok (.ifCond .gt off, 3)) (ht : (pc : Int) + off = (tgt : Int)) (k : 0 < x → Go sc cl rd d bc bs y tgt ls st h Q) (k2 : ¬ (0 < x) → Go sc cl rd d bc bs y (pc + 3) ls st h Q) : Go sc cl rd d bc bs y pc ls (vI x :: st) h Q := by
  intro p l e R s m args below meth c H locs cells slots mc ms D aC A ad ad0 n0 L S hC hDy
  obtain ⟨hx, hb, hml, hr, hown, hts, hlocks, hnm, hex, hK, hKa, hNc, hfl, hmH⟩ := id hC
  obtain ⟨hRm, hHR, hSX, hS, hA, hEx, hL, hSt, hCl⟩ := id hDy
  obtain ⟨z1, S1, rfl, rfl, hSt⟩ := hSt
  exact lv_if_gt hx hb hd ht (fun q => k q p l e R s m args below meth c H locs cells slots mc ms D aC A ad ad0 n0 L S1 hC ⟨hRm, hHR, hSX, hS, hA, hEx, hL, hSt, hCl⟩) (fun q => k2 q p l e R s m args below meth c H locs cells slots mc ms D aC A ad ad0 n0 L S1 hC ⟨hRm, hHR, hSX, hS, hA, hEx, hL, hSt, hCl⟩)

theorem Go.icmp_gt {sc : Nat × (Nat → Int32)} {cl rd : Bool} {d bc bs : Nat} {y : MD} {pc : Nat} {ls st : List AV} {h : AH} {Q : GO → AH → Prop} {x y' : Int32} {off : Int} {tgt : Nat} (hd : decode y.2.1 pc = .ok (.if_icmp .gt off, 3)) (ht : (pc : Int) + off = (tgt : Int)) (k : y' < x → Go sc cl rd d bc bs y tgt ls st h Q) (k2 : ¬ (y' < x) → Go sc cl rd d bc bs y (pc + 3) ls st h Q) : Go sc cl rd d bc bs y pc ls (vI y' :: vI x :: st) h Q := by
  intro p l e R s m args below meth c H locs cells slots mc ms D aC A ad ad0 n0 L S hC hDy
  obtain ⟨hx, hb, hml, hr, hown, hts, hlocks, hnm, hex, hK, hKa, hNc, hfl, hmH⟩ := id hC
  obtain ⟨hRm, hHR, hSX, hS, hA, hEx, hL, hSt, hCl⟩ := id hDy
  obtain ⟨z1, S1, rfl, rfl, z2, S2, rfl, rfl, hSt⟩ := hSt
  exact lv_icmp_gt hx hb hd ht (fun q => k q p l e R s m args below meth c H locs cells slots mc ms D aC A ad ad0 n0 L S2 hC ⟨hRm, hHR, hSX, hS, hA, hEx, hL, hSt, hCl⟩) (fun q => k2 q p l e R s m args below meth c H locs cells slots mc ms D aC A ad ad0 n0 L S2 hC ⟨hRm, hHR, hSX, hS, hA, hEx, hL, hSt, hCl⟩)

theorem Go.if_le {sc : Nat × (Nat → Int32)} {cl rd : Bool} {d bc bs : Nat} {y : MD} {pc : Nat} {ls st : List AV} {h : AH} {Q : GO → AH → Prop} {x : Int32} {off : Int} {tgt : Nat} (hd : decode y.2.1 pc = .ok (.ifCond .le off, 3)) (ht : (pc : Int) + off = (tgt : Int)) (k : x ≤ 0 → Go sc cl rd d bc bs y tgt ls st h Q) (k2 : ¬ (x ≤ 0) → Go sc cl rd d bc bs y (pc + 3) ls st h Q) : Go sc cl rd d bc bs y pc ls (vI x :: st) h Q := by
  intro p l e R s m args below meth c H locs cells slots mc ms D aC A ad ad0 n0 L S hC hDy
  obtain ⟨hx, hb, hml, hr, hown, hts, hlocks, hnm, hex, hK, hKa, hNc, hfl, hmH⟩ := id hC
  obtain ⟨hRm, hHR, hSX, hS, hA, hEx, hL, hSt, hCl⟩ := id hDy
  obtain ⟨z1, S1, rfl, rfl, hSt⟩ := hSt
  exact lv_if_le hx hb hd ht (fun q => k q p l e R s m args below meth c H locs cells slots mc ms D aC A ad ad0 n0 L S1 hC ⟨hRm, hHR, hSX, hS, hA, hEx, hL, hSt, hCl⟩) (fun q => k2 q p l e R s m args below meth c H locs cells slots mc ms D aC A ad ad0 n0 L S1 hC ⟨hRm, hHR, hSX, hS, hA, hEx, hL, hSt, hCl⟩)

theorem Go.icmp_le {sc : Nat × (Nat → Int32)} {cl rd : Bool} {d bc bs : Nat} {y : MD} {pc : Nat} {ls st : List AV} {h : AH} {Q : GO → AH → Prop} {x y' : Int32} {off : Int} {tgt : Nat} (hd : decode y.2.1 pc = .ok (.if_icmp .le off, 3)) (ht : (pc : Int) + off = (tgt : Int)) (k : x ≤ y' → Go sc cl rd d bc bs y tgt ls st h Q) (k2 : ¬ (x ≤ y') → Go sc cl rd d bc bs y (pc + 3) ls st h Q) : Go sc cl rd d bc bs y pc ls (vI y' :: vI x :: st) h Q := by
  intro p l e R s m args below meth c H locs cells slots mc ms D aC A ad ad0 n0 L S hC hDy
  obtain ⟨hx, hb, hml, hr, hown, hts, hlocks, hnm, hex, hK, hKa, hNc, hfl, hmH⟩ := id hC
  obtain ⟨hRm, hHR, hSX, hS, hA, hEx, hL, hSt, hCl⟩ := id hDy
  obtain ⟨z1, S1, rfl, rfl, z2, S2, rfl, rfl, hSt⟩ := hSt
  exact lv_icmp_le hx hb hd ht (fun q => k q p l e R s m args below meth c H locs cells slots mc ms D aC A ad ad0 n0 L S2 hC ⟨hRm, hHR, hSX, hS, hA, hEx, hL, hSt, hCl⟩) (fun q => k2 q p l e R s m args below meth c H locs cells slots mc ms D aC A ad ad0 n0 L S2 hC ⟨hRm, hHR, hSX, hS, hA, hEx, hL, hSt, hCl⟩)

theorem Go.goto {sc : Nat × (Nat → Int32)} {cl rd : Bool} {d bc bs : Nat} {y : MD} {pc : Nat} {ls st : List AV} {h : AH} {Q : GO → AH → Prop} {off : Int} {tgt : Nat} (hd : decode y.2.1 pc = .ok (.goto off, 3)) (ht : (pc : Int) + off = (tgt : Int)) (k : Go sc cl rd d bc bs y tgt ls st h Q) : Go sc cl rd d bc bs y pc ls st h Q := by
  intro p l e R s m args below meth c H locs cells slots mc ms D aC A ad ad0 n0 L S hC hDy
  obtain ⟨hx, hb, hml, hr, hown, hts, hlocks, hnm, hex, hK, hKa, hNc, hfl, hmH⟩ := id hC
  obtain ⟨hRm, hHR, hSX, hS, hA, hEx, hL, hSt, hCl⟩ := id hDy
  exact lv_goto hx hb hd ht (k p l e R s m args below meth c H locs cells slots mc ms D aC A ad ad0 n0 L S hC ⟨hRm, hHR, hSX, hS, hA, hEx, hL, hSt, hCl⟩)

theorem Go.tabOut {sc : Nat × (Nat → Int32)} {cl rd : Bool} {d bc bs : Nat} {y : MD} {pc : Nat} {ls st : List AV} {h : AH} {Q : GO → AH → Prop} {dflt lo hi : Int} {offs : Array Int} {len : Nat} {x : Int32} {tgt : Nat} (hd : decode y.2.1 pc = .ok (.tableswitch dflt lo hi offs, len)) (hh : x.toInt < lo ∨ hi < x.toInt) (ht : (pc : Int) + dflt = (tgt : Int)) (k : Go sc cl rd d bc bs y tgt ls st h Q) : Go sc cl rd d bc bs y pc ls (vI x :: st) h Q := by
  intro p l e R s m args below meth c H locs cells slots mc ms D aC A ad ad0 n0 L S hC hDy
  obtain ⟨hx, hb, hml, hr, hown, hts, hlocks, hnm, hex, hK, hKa, hNc, hfl, hmH⟩ := id hC
  obtain ⟨hRm, hHR, hSX, hS, hA, hEx, hL, hSt, hCl⟩ := id hDy
  obtain ⟨z1, S1, rfl, rfl, hSt⟩ := hSt
  exact lv_tableOut hx hb hd hh ht (k p l e R s m args below meth c H locs cells slots mc ms D aC A ad ad0 n0 L S1 hC ⟨hRm, hHR, hSX, hS, hA, hEx, hL, hSt, hCl⟩)

theorem Go.tabIn {sc : Nat × (Nat → Int32)} {cl rd : Bool} {d bc bs : Nat} {y : MD} {pc : Nat} {ls st : List AV} {h : AH} {Q : GO → AH → Prop} {dflt lo hi : Int} {offs : Array Int} {len : Nat} {x : Int32} {off : Int} {tgt : Nat} (hd : decode y.2.1 pc = .ok (.tableswitch dflt lo hi offs, len)) (h1 : ¬ x.toInt < lo) (h2 : ¬ hi < x.toInt) (ho : offs[(x.toInt - lo).toNat]? = some off) (ht : (pc : Int) + off = (tgt : Int)) (k : Go sc cl rd d bc bs y tgt ls st h Q) : Go sc cl rd d bc bs y pc ls (vI x :: st) h Q := by
  intro p l e R s m args below meth c H locs cells slots mc ms D aC A ad ad0 n0 L S hC hDy
  obtain ⟨hx, hb, hml, hr, hown, hts, hlocks, hnm, hex, hK, hKa, hNc, hfl, hmH⟩ := id hC
  obtain ⟨hRm, hHR, hSX, hS, hA, hEx, hL, hSt, hCl⟩ := id hDy
  obtain ⟨z1, S1, rfl, rfl, hSt⟩ := hSt
  exact lv_tableIn hx hb hd h1 h2 ho ht (k p l e R s m args below meth c H locs cells slots mc ms D aC A ad ad0 n0 L S1 hC ⟨hRm, hHR, hSX, hS, hA, hEx, hL, hSt, hCl⟩)
end
section
theorem ma_ref {ad : Nat → Nat → Nat} {n : Nat → Nat} {k i : Nat} {x : Value} (hk : k < 90 ∨ 100 ≤ k) (hv : ma_RV ad n (vO k i) x) : i < n k ∧ x = .ref (ad k i) := by
  rcases hv with ⟨h1, -⟩ | ⟨h1, -⟩ | h1
  · dsimp only at h1; omega
  · dsimp only at h1; omega
  · exact h1
theorem ma_pos {n : Nat → Nat} {Ls : List (Nat × Nat)} {k i : Nat} (hm : ∀ x, x ∈ Ls ↔ x.2 < n x.1) (hi : i < n k) : ∃ q0 : Nat, Ls[q0]? = some (k, i) := List.getElem?_of_mem ((hm (k, i)).mpr hi)
theorem ma_ws_at {aC : Nat → ClassId} {ad : Nat → Nat → Nat} {h : AH} {Ls : List (Nat × Nat)} {k i q0 : Nat} (hq : Ls[q0]? = some (k, i)) : (ma_ws aC ad h Ls)[q0]? = some (ad k i, ma_E aC ad h (k, i)) := by
  rw [ma_ws, List.getElem?_map, hq]; rfl
theorem ma_E_obj {aC : Nat → ClassId} {ad : Nat → Nat → Nat} {h : AH} {k i : Nat} (hk : k < 90) : ma_E aC ad h (k, i) = .inr (k, ma_fs ad h k i) := by simp [ma_E, hk]
theorem ma_E_arr {aC : Nat → ClassId} {ad : Nat → Nat → Nat} {h : AH} {k i : Nat} (hk : 100 ≤ k) : ma_E aC ad h (k, i) = .inl (aC k, ma_ar ad h k i) := by
  have : ¬ k < 90 := by omega
  simp [ma_E, this]
theorem ma_ar_i {ad : Nat → Nat → Nat} {h : AH} {k i : Nat} (h1 : k ≠ 101) (h2 : k < 110) : ma_ar ad h k i = (h.2.2.2.1 k i, .inl (h.1 k i)) := by simp [ma_ar, h1, h2]
theorem ma_ar_l {ad : Nat → Nat → Nat} {h : AH} {i : Nat} : ma_ar ad h 101 i = (h.2.2.2.1 101 i, .inr (.inl (h.2.2.1 101 i))) := by simp [ma_ar]
theorem ma_ar_q {ad : Nat → Nat → Nat} {h : AH} {k i : Nat} (h1 : 110 ≤ k) : ma_ar ad h k i = (h.2.2.2.1 k i, .inr (.inr (.inr (.inr (fun j => (h.2.1 k i j).map (fun x => ad x.1 x.2)))))) := by
  have n1 : ¬ k = 101 := by omega
  have n2 : ¬ k < 110 := by omega
  simp [ma_ar, n1, n2]
theorem ma_fs_int {ad : Nat → Nat → Nat} {h : AH} {k i f : Nat} (hf : f < ma_nf k) (hk : ma_fk k f = false) : (ma_fs ad h k i)[f]? = some (.int (h.1 k i f)) := by
  simp [ma_fs, List.getElem?_map, List.getElem?_range hf, hk]
theorem ma_fs_ref {ad : Nat → Nat → Nat} {h : AH} {k i f : Nat} (hf : f < ma_nf k) (hk : ma_fk k f = true) : (ma_fs ad h k i)[f]? = some (ma_rf ad (h.2.1 k i f)) := by
  simp [ma_fs, List.getElem?_map, List.getElem?_range hf, hk]
theorem ma_up_row {α : Type} {f : Nat → Nat → Nat → α} {k i j : Nat} {v : α} {x : Nat × Nat} (hx : x ≠ (k, i)) : ma_up f k i j v x.1 x.2 = f x.1 x.2 := by
  funext q
  unfold ma_up
  rw [if_neg]
  rintro ⟨h1, h2, -⟩
  exact hx (Prod.ext h1 h2)
theorem ma_ws_set {aC : Nat → ClassId} {ad : Nat → Nat → Nat} {h h' : AH} {Ls : List (Nat × Nat)} {k i q0 : Nat} {e : va_E} (hnd : Ls.Nodup) (hq : Ls[q0]? = some (k, i)) (hE : ma_E aC ad h' (k, i) = e) (hO : ∀ x, x ≠ (k, i) → ma_E aC ad h' x = ma_E aC ad h x) : (ma_ws aC ad h Ls).set q0 (ad k i, e) = ma_ws aC ad h' Ls := by
  apply List.ext_getElem?
  intro j
  by_cases hj : j = q0
  · subst hj
    have hlt : j < (ma_ws aC ad h Ls).length := by
      have := (List.getElem?_eq_some_iff.mp hq).1
      simpa [ma_ws] using this
    rw [List.getElem?_set_self hlt, ma_ws_at hq, hE]
  · rw [List.getElem?_set_ne (Ne.symm hj)]
    unfold ma_ws
    rw [List.getElem?_map, List.getElem?_map]
    cases hx : Ls[j]? with
    | none => rfl
    | some x =>
      have hne : x ≠ (k, i) := by
        rintro rfl
        obtain ⟨a1, a2⟩ := List.getElem?_eq_some_iff.mp hx
        obtain ⟨b1, b2⟩ := List.getElem?_eq_some_iff.mp hq
        have hpw := List.pairwise_iff_getElem.mp hnd
        rcases Nat.lt_trichotomy j q0 with h1 | h1 | h1
        · exact hpw j q0 a1 b1 h1 (a2.trans b2.symm)
        · exact hj h1
        · exact hpw q0 j b1 a1 h1 (b2.trans a2.symm)
      simp [hO x hne]
theorem ma_E_upI {aC : Nat → ClassId} {ad : Nat → Nat → Nat} {h : AH} {k i j : Nat} {v : Int32} : ∀ x, x ≠ (k, i) → ma_E aC ad (ma_up h.1 k i j v, h.2) x = ma_E aC ad h x := by
  intro x hx
  have e1 : ma_up h.1 k i j v x.1 x.2 = h.1 x.1 x.2 := ma_up_row hx
  simp only [ma_E, ma_fs, ma_ar, e1]
theorem ma_E_upR {aC : Nat → ClassId} {ad : Nat → Nat → Nat} {h : AH} {k i j : Nat} {v : Option (Nat × Nat)} : ∀ x, x ≠ (k, i) → ma_E aC ad (h.1, ma_up h.2.1 k i j v, h.2.2) x = ma_E aC ad h x := by
  intro x hx
  have e1 : ma_up h.2.1 k i j v x.1 x.2 = h.2.1 x.1 x.2 := ma_up_row hx
  simp only [ma_E, ma_fs, ma_ar, e1]
theorem ma_E_upL {aC : Nat → ClassId} {ad : Nat → Nat → Nat} {h : AH} {k i j : Nat} {v : Int64} : ∀ x, x ≠ (k, i) → ma_E aC ad (h.1, h.2.1, ma_up h.2.2.1 k i j v, h.2.2.2) x = ma_E aC ad h x := by
  intro x hx
  have e1 : ma_up h.2.2.1 k i j v x.1 x.2 = h.2.2.1 x.1 x.2 := ma_up_row hx
  simp only [ma_E, ma_fs, ma_ar, e1]
theorem ma_fs_setI {ad : Nat → Nat → Nat} {h : AH} {k i f : Nat} {v : Int32} (hf : f < ma_nf k) (hk : ma_fk k f = false) : ma_fs ad (ma_up h.1 k i f v, h.2) k i = (ma_fs ad h k i).set f (.int v) := by
  apply List.ext_getElem?
  intro j
  by_cases hj : j = f
  · subst hj
    rw [ma_fs_int hf hk, List.getElem?_set_self (by simpa [ma_fs] using hf)]
    simp [ma_up]
  · rw [List.getElem?_set_ne (Ne.symm hj)]
    unfold ma_fs
    rw [List.getElem?_map, List.getElem?_map]
    have e1 : ma_up h.1 k i f v k i j = h.1 k i j := by simp [ma_up, hj]
    cases hx : (List.range (ma_nf k))[j]? with
    | none => rfl
    | some z =>
      have hz : z = j := by
        obtain ⟨a1, a2⟩ := List.getElem?_eq_some_iff.mp hx
        simpa using a2.symm
      subst hz
      simp [e1]
theorem ma_fs_setR {ad : Nat → Nat → Nat} {h : AH} {k i f : Nat} {v : Option (Nat × Nat)} (hf : f < ma_nf k) (hk : ma_fk k f = true) : ma_fs ad (h.1, ma_up h.2.1 k i f v, h.2.2) k i = (ma_fs ad h k i).set f (ma_rf ad v) := by
  apply List.ext_getElem?
  intro j
  by_cases hj : j = f
  · subst hj
    rw [ma_fs_ref hf hk, List.getElem?_set_self (by simpa [ma_fs] using hf)]
    simp [ma_up]
  · rw [List.getElem?_set_ne (Ne.symm hj)]
    unfold ma_fs
    rw [List.getElem?_map, List.getElem?_map]
    have e1 : ma_up h.2.1 k i f v k i j = h.2.1 k i j := by simp [ma_up, hj]
    cases hx : (List.range (ma_nf k))[j]? with
    | none => rfl
    | some z =>
      have hz : z = j := by
        obtain ⟨a1, a2⟩ := List.getElem?_eq_some_iff.mp hx
        simpa using a2.symm
      subst hz
      simp [e1]
theorem ma_fs_len {ad : Nat → Nat → Nat} {h : AH} {k i : Nat} : (ma_fs ad h k i).length = ma_nf k := by simp [ma_fs]
theorem ma_cls_upI {h : AH} {k i j : Nat} {v : Int32} (hz : ∀ a b q, ma_n h a ≤ b → h.1 a b q = 0 ∧ h.2.1 a b q = none ∧ h.2.2.1 a b q = 0) (hi : i < ma_n h k) : ∀ a b q, ma_n h a ≤ b → ma_up h.1 k i j v a b q = 0 ∧ h.2.1 a b q = none ∧ h.2.2.1 a b q = 0 := by
  intro a b q hb
  refine ⟨?_, (hz a b q hb).2⟩
  unfold ma_up
  rw [if_neg]
  · exact (hz a b q hb).1
  · rintro ⟨rfl, rfl, -⟩
    omega
theorem ma_cls_upL {h : AH} {k i j : Nat} {v : Int64} (hz : ∀ a b q, ma_n h a ≤ b → h.1 a b q = 0 ∧ h.2.1 a b q = none ∧ h.2.2.1 a b q = 0) (hi : i < ma_n h k) : ∀ a b q, ma_n h a ≤ b → h.1 a b q = 0 ∧ h.2.1 a b q = none ∧ ma_up h.2.2.1 k i j v a b q = 0 := by
  intro a b q hb
  refine ⟨(hz a b q hb).1, (hz a b q hb).2.1, ?_⟩
  unfold ma_up
  rw [if_neg]
  · exact (hz a b q hb).2.2
  · rintro ⟨rfl, rfl, -⟩
    omega
theorem ma_cls_upR {h : AH} {k i j c2 i2 : Nat} (hz : ma_cls h) (hi : i < ma_n h k) (hi2 : i2 < ma_n h c2) : ma_cls (h.1, ma_up h.2.1 k i j (some (c2, i2)), h.2.2) := by
  refine ⟨fun a b q r hb hr => ?_, fun a b q hb => ⟨(hz.2 a b q hb).1, ?_, (hz.2 a b q hb).2.2⟩⟩
  · dsimp only [ma_up] at hr
    split at hr
    · cases hr; exact hi2
    · exact hz.1 a b q r hb hr
  · show ma_up h.2.1 k i j (some (c2, i2)) a b q = none
    unfold ma_up
    rw [if_neg]
    · exact (hz.2 a b q hb).2.1
    · rintro ⟨rfl, rfl, -⟩
      have hb' : ma_n h a ≤ b := hb
      omega
/-- the tables' words of a field: it is read or written in the class own by the pool's place idx -/
def ma_FL (own : String) (k f idx : Nat) : Prop := ∃ (C : String) (T : u_T), maCl[k]? = some (C, T, ma_nf k) ∧ f < ma_nf k ∧ (∀ w ∈ u_ws C T (ma_nf k), w ∈ maT) ∧ Cond.fieldLink own idx (T f).1 (T f).2.1 (T f).2.2.1 ∈ maT ∧ (∀ j, j < ma_nf k → parseFieldDescriptor (T j).2.2.1 = some (ma_ft k j)) ∧ (∀ a, a < ma_nf k → ∀ b, b < ma_nf k → a ≠ b → (T a).2.1 ≠ (T b).2.1)
def ma_FW (y : MD) (k f idx : Nat) : Prop := ∃ (C : String) (T : u_T), maCl[k]? = some (C, T, ma_nf k) ∧ f < ma_nf k ∧ (∀ w ∈ u_ws C T (ma_nf k), w ∈ maT) ∧ Cond.fieldLink y.1.cls idx (T f).1 (T f).2.1 (T f).2.2.1 ∈ maT ∧ (∀ j, j < ma_nf k → parseFieldDescriptor (T j).2.2.1 = some (ma_ft k j)) ∧ (∀ a, a < ma_nf k → ∀ b, b < ma_nf k → a ≠ b → (T a).2.1 ≠ (T b).2.1) ∧ ((T f).2.2.2 = false ∨ ((T f).2.2.2 = true ∧ y.1.name = "<init>" ∧ (T f).1 = y.1.cls))

theorem Go.getI {sc : Nat × (Nat → Int32)} {cl rd : Bool} {d bc bs : Nat} {y : MD} {pc : Nat} {ls st : List AV} {h : AH} {Q : GO → AH → Prop} {k i f idx : Nat} (hd : decode y.2.1 pc = .ok (.getfield idx, 3)) (hf : ma_FL y.1.cls k f idx) (hk : k < 90) (hfk : ma_fk k f = false) (kk : Go sc cl rd d bc bs y (pc + 3) ls (vI (h.1 k i f) :: st) h Q) : Go sc cl rd d bc bs y pc ls (vO k i :: st) h Q := by
  intro p l e R s m args below meth c H locs cells slots mc ms D aC A ad ad0 n0 L S hC hDy
  obtain ⟨hx, hb, hml, hr, hown, hts, hlocks, hnm, hex, hK, hKa, hNc, hfl, hmH⟩ := id hC
  obtain ⟨hRm, hHR, hSX, hS, hA, hEx, hL, hSt, hCl⟩ := id hDy
  obtain ⟨z1, S1, rfl, hv, hSt⟩ := hSt
  obtain ⟨hi, rfl⟩ := ma_ref (Or.inl hk) hv
  obtain ⟨C, T, hc, hfn, hin, hlk, -, -⟩ := hf
  obtain ⟨Ls, hm, hnd, hP, hD, h90, hcl⟩ := id hHR
  obtain ⟨q0, hq0⟩ := ma_pos hm hi
  have he := ma_ws_at (aC := aC) (ad := ad) (h := h) hq0
  rw [ma_E_obj hk] at he
  exact va_get (D := D) (C := C) (T := T) hx hb hts hin hown hK hP q0 he hc f hfn (hts _ hlk) (fun _ h9 => h9) (ma_fs_int hfn hfk) hd (kk p l e R s m args below meth c H locs cells slots mc ms D aC A ad ad0 n0 L (.int (h.1 k i f) :: S1) hC ⟨hRm, hHR, hSX, hS, hA, hEx, hL, ⟨_, _, rfl, rfl, hSt⟩, hCl⟩)

theorem Go.getR {sc : Nat × (Nat → Int32)} {cl rd : Bool} {d bc bs : Nat} {y : MD} {pc : Nat} {ls st : List AV} {h : AH} {Q : GO → AH → Prop} {k i f idx : Nat} {r : Nat × Nat} (hd : decode y.2.1 pc = .ok (.getfield idx, 3)) (hf : ma_FL y.1.cls k f idx) (hk : k < 90) (hfk : ma_fk k f = true) (hr0 : h.2.1 k i f = some r) (kk : Go sc cl rd d bc bs y (pc + 3) ls (vO r.1 r.2 :: st) h Q) : Go sc cl rd d bc bs y pc ls (vO k i :: st) h Q := by
  intro p l e R s m args below meth c H locs cells slots mc ms D aC A ad ad0 n0 L S hC hDy
  obtain ⟨hx, hb, hml, hr, hown, hts, hlocks, hnm, hex, hK, hKa, hNc, hfl, hmH⟩ := id hC
  obtain ⟨hRm, hHR, hSX, hS, hA, hEx, hL, hSt, hCl⟩ := id hDy
  obtain ⟨z1, S1, rfl, hv, hSt⟩ := hSt
  obtain ⟨hi, rfl⟩ := ma_ref (Or.inl hk) hv
  obtain ⟨C, T, hc, hfn, hin, hlk, -, -⟩ := hf
  obtain ⟨Ls, hm, hnd, hP, hD, h90, hcl⟩ := id hHR
  obtain ⟨q0, hq0⟩ := ma_pos hm hi
  have he := ma_ws_at (aC := aC) (ad := ad) (h := h) hq0
  rw [ma_E_obj hk] at he
  have hz := ma_fs_ref (ad := ad) (h := h) (i := i) hfn hfk
  rw [hr0] at hz
  have hr2 := (hcl.1 _ _ _ _ hi hr0)
  exact va_get (D := D) (C := C) (T := T) hx hb hts hin hown hK hP q0 he hc f hfn (hts _ hlk) (fun _ h9 => h9) hz hd (kk p l e R s m args below meth c H locs cells slots mc ms D aC A ad ad0 n0 L (.ref (ad r.1 r.2) :: S1) hC ⟨hRm, hHR, hSX, hS, hA, hEx, hL, ⟨_, _, rfl, Or.inr (Or.inr ⟨hr2, rfl⟩), hSt⟩, hCl⟩)

theorem Go.putI {sc : Nat × (Nat → Int32)} {cl rd : Bool} {d bc bs : Nat} {y : MD} {pc : Nat} {ls st : List AV} {h : AH} {Q : GO → AH → Prop} {k i f idx : Nat} {x : Int32} (hd : decode y.2.1 pc = .ok (.putfield idx, 3)) (hf : ma_FW y k f idx) (hk : k < 90) (hfk : ma_fk k f = false) (hty : narrow (ma_ft k f) (.int x) = .int x ∧ fits (ma_ft k f) (.int x) = true) (kk : Go sc false rd d bc bs y (pc + 3) ls st (ma_up h.1 k i f x, h.2) Q) : Go sc cl rd d bc bs y pc ls (vI x :: vO k i :: st) h Q := by
  intro p l e R s m args below meth c H locs cells slots mc ms D aC A ad ad0 n0 L S hC hDy
  obtain ⟨hx, hb, hml, hr, hown, hts, hlocks, hnm, hex, hK, hKa, hNc, hfl, hmH⟩ := id hC
  obtain ⟨hRm, hHR, hSX, hS, hA, hEx, hL, hSt, hCl⟩ := id hDy
  obtain ⟨z1, S1, rfl, rfl, z2, S2, rfl, hv, hSt⟩ := hSt
  obtain ⟨hi, rfl⟩ := ma_ref (Or.inl hk) hv
  obtain ⟨C, T, hc, hfn, hin, hlk, htys, hnms, hfin⟩ := hf
  obtain ⟨Ls, hm, hnd, hP, hD, h90, hcl⟩ := id hHR
  obtain ⟨q0, hq0⟩ := ma_pos hm hi
  have he := ma_ws_at (aC := aC) (ad := ad) (h := h) hq0
  rw [ma_E_obj hk] at he
  have hset := ma_ws_set (aC := aC) (ad := ad) (h := h) (h' := (ma_up h.1 k i f x, h.2)) hnd hq0 ((ma_E_obj hk).trans (by rw [ma_fs_setI hfn hfk])) ma_E_upI
  have hcl1 : ma_cls (ma_up h.1 k i f x, h.2) := ⟨hcl.1, ma_cls_upI hcl.2 hi⟩
  rcases hfin with hfin | ⟨hfin, hini, hdecl⟩
  · refine va_put (D := D) (C := C) (T := T) hx hb hts hin (ma_ft k) htys hnms hown hK hP hD hS q0 he hc f hfn (hts _ hlk) (fun _ h9 => h9) hfin (htys f hfn) hty.1 hty.2 (by rw [ma_fs_len]; exact hfn) hd (fun H1 locs1 hP1 hD1 hS1 => ?_)
    rw [hset] at hP1 hD1
    exact kk p l e R s m args below meth c H1 locs1 cells slots mc ms D aC A ad ad0 n0 L S2 hC ⟨hRm, ⟨Ls, hm, hnd, hP1, hD1, h90, hcl1⟩, hSX, hS1, hA, hEx, hL, hSt, fun h9 => nomatch h9⟩
  · refine va_putF (D := D) (C := C) (T := T) hx hb hts hin (ma_ft k) htys hnms hown hK hP hD hS q0 he hc f hfn (hts _ hlk) (fun _ h9 => h9) hfin (hnm.trans hini) hdecl (htys f hfn) hty.1 hty.2 (by rw [ma_fs_len]; exact hfn) hd (fun H1 locs1 hP1 hD1 hS1 => ?_)
    rw [hset] at hP1 hD1
    exact kk p l e R s m args below meth c H1 locs1 cells slots mc ms D aC A ad ad0 n0 L S2 hC ⟨hRm, ⟨Ls, hm, hnd, hP1, hD1, h90, hcl1⟩, hSX, hS1, hA, hEx, hL, hSt, fun h9 => nomatch h9⟩

theorem Go.putR {sc : Nat × (Nat → Int32)} {cl rd : Bool} {d bc bs : Nat} {y : MD} {pc : Nat} {ls st : List AV} {h : AH} {Q : GO → AH → Prop} {k i f idx c2 i2 : Nat} (hd : decode y.2.1 pc = .ok (.putfield idx, 3)) (hf : ma_FW y k f idx) (hk : k < 90) (hc2 : c2 < 90 ∨ 100 ≤ c2) (hfk : ma_fk k f = true) (hty : ∀ a, narrow (ma_ft k f) (.ref a) = .ref a ∧ fits (ma_ft k f) (.ref a) = true) (kk : Go sc false rd d bc bs y (pc + 3) ls st (h.1, ma_up h.2.1 k i f (some (c2, i2)), h.2.2) Q) : Go sc cl rd d bc bs y pc ls (vO c2 i2 :: vO k i :: st) h Q := by
  intro p l e R s m args below meth c H locs cells slots mc ms D aC A ad ad0 n0 L S hC hDy
  obtain ⟨hx, hb, hml, hr, hown, hts, hlocks, hnm, hex, hK, hKa, hNc, hfl, hmH⟩ := id hC
  obtain ⟨hRm, hHR, hSX, hS, hA, hEx, hL, hSt, hCl⟩ := id hDy
  obtain ⟨z1, S1, rfl, hv1, z2, S2, rfl, hv, hSt⟩ := hSt
  obtain ⟨hi1, rfl⟩ := ma_ref hc2 hv1
  obtain ⟨hi, rfl⟩ := ma_ref (Or.inl hk) hv
  obtain ⟨C, T, hc, hfn, hin, hlk, htys, hnms, hfin⟩ := hf
  obtain ⟨Ls, hm, hnd, hP, hD, h90, hcl⟩ := id hHR
  obtain ⟨q0, hq0⟩ := ma_pos hm hi
  have he := ma_ws_at (aC := aC) (ad := ad) (h := h) hq0
  rw [ma_E_obj hk] at he
  have hset := ma_ws_set (aC := aC) (ad := ad) (h := h) (h' := (h.1, ma_up h.2.1 k i f (some (c2, i2)), h.2.2)) hnd hq0 ((ma_E_obj hk).trans (by rw [ma_fs_setR hfn hfk])) ma_E_upR
  have hcl1 : ma_cls (h.1, ma_up h.2.1 k i f (some (c2, i2)), h.2.2) := ma_cls_upR hcl hi hi1
  rcases hfin with hfin | ⟨hfin, hini, hdecl⟩
  · refine va_put (D := D) (C := C) (T := T) hx hb hts hin (ma_ft k) htys hnms hown hK hP hD hS q0 he hc f hfn (hts _ hlk) (fun _ h9 => h9) hfin (htys f hfn) (hty _).1 (hty _).2 (by rw [ma_fs_len]; exact hfn) hd (fun H1 locs1 hP1 hD1 hS1 => ?_)
    replace hP1 : va_P D maCl ((ma_ws aC ad h Ls).set q0 (ad k i, .inr (k, (ma_fs ad h k i).set f (ma_rf ad (some (c2, i2)))))) H1 := hP1
    replace hD1 : va_D A ((ma_ws aC ad h Ls).set q0 (ad k i, .inr (k, (ma_fs ad h k i).set f (ma_rf ad (some (c2, i2)))))) := hD1
    rw [hset] at hP1 hD1
    exact kk p l e R s m args below meth c H1 locs1 cells slots mc ms D aC A ad ad0 n0 L S2 hC ⟨hRm, ⟨Ls, hm, hnd, hP1, hD1, h90, hcl1⟩, hSX, hS1, hA, hEx, hL, hSt, fun h9 => nomatch h9⟩
  · refine va_putF (D := D) (C := C) (T := T) hx hb hts hin (ma_ft k) htys hnms hown hK hP hD hS q0 he hc f hfn (hts _ hlk) (fun _ h9 => h9) hfin (hnm.trans hini) hdecl (htys f hfn) (hty _).1 (hty _).2 (by rw [ma_fs_len]; exact hfn) hd (fun H1 locs1 hP1 hD1 hS1 => ?_)
    replace hP1 : va_P D maCl ((ma_ws aC ad h Ls).set q0 (ad k i, .inr (k, (ma_fs ad h k i).set f (ma_rf ad (some (c2, i2)))))) H1 := hP1
    replace hD1 : va_D A ((ma_ws aC ad h Ls).set q0 (ad k i, .inr (k, (ma_fs ad h k i).set f (ma_rf ad (some (c2, i2)))))) := hD1
    rw [hset] at hP1 hD1
    exact kk p l e R s m args below meth c H1 locs1 cells slots mc ms D aC A ad ad0 n0 L S2 hC ⟨hRm, ⟨Ls, hm, hnd, hP1, hD1, h90, hcl1⟩, hSX, hS1, hA, hEx, hL, hSt, fun h9 => nomatch h9⟩

theorem Go.iald {sc : Nat × (Nat → Int32)} {cl rd : Bool} {d bc bs : Nat} {y : MD} {pc : Nat} {ls st : List AV} {h : AH} {Q : GO → AH → Prop} {i jn : Nat} {j : Int32} (hd : decode y.2.1 pc = .ok (.iaload, 1)) (hj : j = nI jn) (hlt : jn < h.2.2.2.1 100 i) (hb31 : jn < 2 ^ 31) (kk : Go sc cl rd d bc bs y (pc + 1) ls (vI (h.1 100 i jn) :: st) h Q) : Go sc cl rd d bc bs y pc ls (vI j :: vO 100 i :: st) h Q := by
  intro p l e R s m args below meth c H locs cells slots mc ms D aC A ad ad0 n0 L S hC hDy
  obtain ⟨hx, hb, hml, hr, hown, hts, hlocks, hnm, hex, hK, hKa, hNc, hfl, hmH⟩ := id hC
  obtain ⟨hRm, hHR, hSX, hS, hA, hEx, hL, hSt, hCl⟩ := id hDy
  obtain ⟨z1, S1, rfl, rfl, z2, S2, rfl, hv, hSt⟩ := hSt
  obtain ⟨hi, rfl⟩ := ma_ref (Or.inr (by omega)) hv
  obtain ⟨Ls, hm, hnd, hP, hD, h90, hcl⟩ := id hHR
  obtain ⟨q0, hq0⟩ := ma_pos hm hi
  have he := ma_ws_at (aC := aC) (ad := ad) (h := h) hq0
  rw [ma_E_arr (by omega), ma_ar_i (by omega) (by omega)] at he
  have hKt : va_K D maCl [(aC 100, .int)] s := ⟨hK.1, fun j q hq => by
    have hj : j < 1 := (List.getElem?_eq_some_iff.mp hq).1
    rw [show j = 0 by omega] at hq
    cases hq
    exact hKa _ _ rfl⟩
  have hin : vp_in j (h.2.2.2.1 100 i) := by
    rw [hj, vp_in, nI_clamp hb31]
    rintro (q | q)
    · exact nI_pos hb31 q
    · omega
  have e9 : j.toNatClampNeg = jn := by rw [hj]; exact nI_clamp hb31
  have k9 := kk p l e R s m args below meth c H locs cells slots mc ms D aC A ad ad0 n0 L (.int (h.1 100 i jn) :: S2) hC ⟨hRm, hHR, hSX, hS, hA, hEx, hL, ⟨_, _, rfl, rfl, hSt⟩, hCl⟩
  rw [← e9] at k9
  exact va_iald (D := D) hx hb hKt hP q0 0 he rfl hin hd k9

theorem Go.zald {sc : Nat × (Nat → Int32)} {cl rd : Bool} {d bc bs : Nat} {y : MD} {pc : Nat} {ls st : List AV} {h : AH} {Q : GO → AH → Prop} {i jn : Nat} {j : Int32} (hd : decode y.2.1 pc = .ok (.baload, 1)) (hj : j = nI jn) (hlt : jn < h.2.2.2.1 102 i) (hb31 : jn < 2 ^ 31) (kk : Go sc cl rd d bc bs y (pc + 1) ls (vI (h.1 102 i jn) :: st) h Q) : Go sc cl rd d bc bs y pc ls (vI j :: vO 102 i :: st) h Q := by
  intro p l e R s m args below meth c H locs cells slots mc ms D aC A ad ad0 n0 L S hC hDy
  obtain ⟨hx, hb, hml, hr, hown, hts, hlocks, hnm, hex, hK, hKa, hNc, hfl, hmH⟩ := id hC
  obtain ⟨hRm, hHR, hSX, hS, hA, hEx, hL, hSt, hCl⟩ := id hDy
  obtain ⟨z1, S1, rfl, rfl, z2, S2, rfl, hv, hSt⟩ := hSt
  obtain ⟨hi, rfl⟩ := ma_ref (Or.inr (by omega)) hv
  obtain ⟨Ls, hm, hnd, hP, hD, h90, hcl⟩ := id hHR
  obtain ⟨q0, hq0⟩ := ma_pos hm hi
  have he := ma_ws_at (aC := aC) (ad := ad) (h := h) hq0
  rw [ma_E_arr (by omega), ma_ar_i (by omega) (by omega)] at he
  have hKt : va_K D maCl [(aC 102, .boolean)] s := ⟨hK.1, fun j q hq => by
    have hj : j < 1 := (List.getElem?_eq_some_iff.mp hq).1
    rw [show j = 0 by omega] at hq
    cases hq
    exact hKa _ _ rfl⟩
  have hin : vp_in j (h.2.2.2.1 102 i) := by
    rw [hj, vp_in, nI_clamp hb31]
    rintro (q | q)
    · exact nI_pos hb31 q
    · omega
  have e9 : j.toNatClampNeg = jn := by rw [hj]; exact nI_clamp hb31
  have k9 := kk p l e R s m args below meth c H locs cells slots mc ms D aC A ad ad0 n0 L (.int (h.1 102 i jn) :: S2) hC ⟨hRm, hHR, hSX, hS, hA, hEx, hL, ⟨_, _, rfl, rfl, hSt⟩, hCl⟩
  rw [← e9] at k9
  exact va_zald (D := D) hx hb hKt hP q0 0 he rfl hin hd k9

theorem Go.lald {sc : Nat × (Nat → Int32)} {cl rd : Bool} {d bc bs : Nat} {y : MD} {pc : Nat} {ls st : List AV} {h : AH} {Q : GO → AH → Prop} {i jn : Nat} {j : Int32} (hd : decode y.2.1 pc = .ok (.laload, 1)) (hj : j = nI jn) (hlt : jn < h.2.2.2.1 101 i) (hb31 : jn < 2 ^ 31) (kk : Go sc cl rd d bc bs y (pc + 1) ls (vL (h.2.2.1 101 i jn) :: st) h Q) : Go sc cl rd d bc bs y pc ls (vI j :: vO 101 i :: st) h Q := by
  intro p l e R s m args below meth c H locs cells slots mc ms D aC A ad ad0 n0 L S hC hDy
  obtain ⟨hx, hb, hml, hr, hown, hts, hlocks, hnm, hex, hK, hKa, hNc, hfl, hmH⟩ := id hC
  obtain ⟨hRm, hHR, hSX, hS, hA, hEx, hL, hSt, hCl⟩ := id hDy
  obtain ⟨z1, S1, rfl, rfl, z2, S2, rfl, hv, hSt⟩ := hSt
  obtain ⟨hi, rfl⟩ := ma_ref (Or.inr (by omega)) hv
  obtain ⟨Ls, hm, hnd, hP, hD, h90, hcl⟩ := id hHR
  obtain ⟨q0, hq0⟩ := ma_pos hm hi
  have he := ma_ws_at (aC := aC) (ad := ad) (h := h) hq0
  rw [ma_E_arr (by omega), ma_ar_l] at he
  have hKt : va_K D maCl [(aC 101, .long)] s := ⟨hK.1, fun j q hq => by
    have hj : j < 1 := (List.getElem?_eq_some_iff.mp hq).1
    rw [show j = 0 by omega] at hq
    cases hq
    exact hKa _ _ rfl⟩
  have hin : vp_in j (h.2.2.2.1 101 i) := by
    rw [hj, vp_in, nI_clamp hb31]
    rintro (q | q)
    · exact nI_pos hb31 q
    · omega
  have e9 : j.toNatClampNeg = jn := by rw [hj]; exact nI_clamp hb31
  have k9 := kk p l e R s m args below meth c H locs cells slots mc ms D aC A ad ad0 n0 L (.long (h.2.2.1 101 i jn) :: S2) hC ⟨hRm, hHR, hSX, hS, hA, hEx, hL, ⟨_, _, rfl, rfl, hSt⟩, hCl⟩
  rw [← e9] at k9
  exact va_lald (D := D) hx hb hKt hP q0 0 he rfl hin hd k9

theorem Go.iast {sc : Nat × (Nat → Int32)} {cl rd : Bool} {d bc bs : Nat} {y : MD} {pc : Nat} {ls st : List AV} {h : AH} {Q : GO → AH → Prop} {i jn : Nat} {j x : Int32} (hd : decode y.2.1 pc = .ok (.iastore, 1)) (hj : j = nI jn) (hlt : jn < h.2.2.2.1 100 i) (hb31 : jn < 2 ^ 31) (kk : Go sc false rd d bc bs y (pc + 1) ls st (ma_up h.1 100 i jn x, h.2) Q) : Go sc cl rd d bc bs y pc ls (vI x :: vI j :: vO 100 i :: st) h Q := by
  intro p l e R s m args below meth c H locs cells slots mc ms D aC A ad ad0 n0 L S hC hDy
  obtain ⟨hx, hb, hml, hr, hown, hts, hlocks, hnm, hex, hK, hKa, hNc, hfl, hmH⟩ := id hC
  obtain ⟨hRm, hHR, hSX, hS, hA, hEx, hL, hSt, hCl⟩ := id hDy
  obtain ⟨z1, S1, rfl, rfl, z2, S2, rfl, rfl, z3, S3, rfl, hv, hSt⟩ := hSt
  obtain ⟨hi, rfl⟩ := ma_ref (Or.inr (by omega)) hv
  obtain ⟨Ls, hm, hnd, hP, hD, h90, hcl⟩ := id hHR
  obtain ⟨q0, hq0⟩ := ma_pos hm hi
  have he := ma_ws_at (aC := aC) (ad := ad) (h := h) hq0
  rw [ma_E_arr (by omega), ma_ar_i (by omega) (by omega)] at he
  have hKt : va_K D maCl [(aC 100, .int)] s := ⟨hK.1, fun j q hq => by
    have hj : j < 1 := (List.getElem?_eq_some_iff.mp hq).1
    rw [show j = 0 by omega] at hq
    cases hq
    exact hKa _ _ rfl⟩
  have hin : vp_in j (h.2.2.2.1 100 i) := by
    rw [hj, vp_in, nI_clamp hb31]
    rintro (q | q)
    · exact nI_pos hb31 q
    · omega
  have e9 : j.toNatClampNeg = jn := by rw [hj]; exact nI_clamp hb31
  have hset := ma_ws_set (aC := aC) (ad := ad) (h := h) (h' := (ma_up h.1 100 i jn x, h.2)) (e := .inl (aC 100, h.2.2.2.1 100 i, .inl (upd (h.1 100 i) jn x))) hnd hq0 ((ma_E_arr (by omega)).trans (by
    have e1 : ma_up h.1 100 i jn x 100 i = upd (h.1 100 i) jn x := by funext q; simp [ma_up, upd]
    rw [ma_ar_i (by omega) (by omega)]; simp only [e1])) ma_E_upI
  have hcl1 : ma_cls (ma_up h.1 100 i jn x, h.2) := ⟨hcl.1, ma_cls_upI hcl.2 hi⟩
  refine va_iast (D := D) hx hb hKt hP hD hS q0 0 he rfl hin hd (fun H1 locs1 hP1 hD1 hS1 => ?_)
  rw [e9] at hP1 hD1
  rw [hset] at hP1 hD1
  exact kk p l e R s m args below meth c H1 locs1 cells slots mc ms D aC A ad ad0 n0 L S3 hC ⟨hRm, ⟨Ls, hm, hnd, hP1, hD1, h90, hcl1⟩, hSX, hS1, hA, hEx, hL, hSt, fun h9 => nomatch h9⟩

theorem Go.zast {sc : Nat × (Nat → Int32)} {cl rd : Bool} {d bc bs : Nat} {y : MD} {pc : Nat} {ls st : List AV} {h : AH} {Q : GO → AH → Prop} {i jn : Nat} {j x : Int32} (hd : decode y.2.1 pc = .ok (.bastore, 1)) (hj : j = nI jn) (hlt : jn < h.2.2.2.1 102 i) (hb31 : jn < 2 ^ 31) (hbit : x = 0 ∨ x = 1) (kk : Go sc false rd d bc bs y (pc + 1) ls st (ma_up h.1 102 i jn x, h.2) Q) : Go sc cl rd d bc bs y pc ls (vI x :: vI j :: vO 102 i :: st) h Q := by
  intro p l e R s m args below meth c H locs cells slots mc ms D aC A ad ad0 n0 L S hC hDy
  obtain ⟨hx, hb, hml, hr, hown, hts, hlocks, hnm, hex, hK, hKa, hNc, hfl, hmH⟩ := id hC
  obtain ⟨hRm, hHR, hSX, hS, hA, hEx, hL, hSt, hCl⟩ := id hDy
  obtain ⟨z1, S1, rfl, rfl, z2, S2, rfl, rfl, z3, S3, rfl, hv, hSt⟩ := hSt
  obtain ⟨hi, rfl⟩ := ma_ref (Or.inr (by omega)) hv
  obtain ⟨Ls, hm, hnd, hP, hD, h90, hcl⟩ := id hHR
  obtain ⟨q0, hq0⟩ := ma_pos hm hi
  have he := ma_ws_at (aC := aC) (ad := ad) (h := h) hq0
  rw [ma_E_arr (by omega), ma_ar_i (by omega) (by omega)] at he
  have hKt : va_K D maCl [(aC 102, .boolean)] s := ⟨hK.1, fun j q hq => by
    have hj : j < 1 := (List.getElem?_eq_some_iff.mp hq).1
    rw [show j = 0 by omega] at hq
    cases hq
    exact hKa _ _ rfl⟩
  have hin : vp_in j (h.2.2.2.1 102 i) := by
    rw [hj, vp_in, nI_clamp hb31]
    rintro (q | q)
    · exact nI_pos hb31 q
    · omega
  have e9 : j.toNatClampNeg = jn := by rw [hj]; exact nI_clamp hb31
  have hset := ma_ws_set (aC := aC) (ad := ad) (h := h) (h' := (ma_up h.1 102 i jn x, h.2)) (e := .inl (aC 102, h.2.2.2.1 102 i, .inl (upd (h.1 102 i) jn x))) hnd hq0 ((ma_E_arr (by omega)).trans (by
    have e1 : ma_up h.1 102 i jn x 102 i = upd (h.1 102 i) jn x := by funext q; simp [ma_up, upd]
    rw [ma_ar_i (by omega) (by omega)]; simp only [e1])) ma_E_upI
  have hcl1 : ma_cls (ma_up h.1 102 i jn x, h.2) := ⟨hcl.1, ma_cls_upI hcl.2 hi⟩
  refine va_zast (D := D) hx hb hKt hP hD hS q0 0 he rfl hin hd (fun H1 locs1 hP1 hD1 hS1 => ?_)
  have hnar : vp_nar .boolean x = x := by rcases hbit with rfl | rfl <;> rfl
  rw [e9, hnar] at hP1 hD1
  rw [hset] at hP1 hD1
  exact kk p l e R s m args below meth c H1 locs1 cells slots mc ms D aC A ad ad0 n0 L S3 hC ⟨hRm, ⟨Ls, hm, hnd, hP1, hD1, h90, hcl1⟩, hSX, hS1, hA, hEx, hL, hSt, fun h9 => nomatch h9⟩

theorem Go.last {sc : Nat × (Nat → Int32)} {cl rd : Bool} {d bc bs : Nat} {y : MD} {pc : Nat} {ls st : List AV} {h : AH} {Q : GO → AH → Prop} {i jn : Nat} {j : Int32} {x : Int64} (hd : decode y.2.1 pc = .ok (.lastore, 1)) (hj : j = nI jn) (hlt : jn < h.2.2.2.1 101 i) (hb31 : jn < 2 ^ 31) (kk : Go sc false rd d bc bs y (pc + 1) ls st (h.1, h.2.1, ma_up h.2.2.1 101 i jn x, h.2.2.2) Q) : Go sc cl rd d bc bs y pc ls (vL x :: vI j :: vO 101 i :: st) h Q := by
  intro p l e R s m args below meth c H locs cells slots mc ms D aC A ad ad0 n0 L S hC hDy
  obtain ⟨hx, hb, hml, hr, hown, hts, hlocks, hnm, hex, hK, hKa, hNc, hfl, hmH⟩ := id hC
  obtain ⟨hRm, hHR, hSX, hS, hA, hEx, hL, hSt, hCl⟩ := id hDy
  obtain ⟨z1, S1, rfl, rfl, z2, S2, rfl, rfl, z3, S3, rfl, hv, hSt⟩ := hSt
  obtain ⟨hi, rfl⟩ := ma_ref (Or.inr (by omega)) hv
  obtain ⟨Ls, hm, hnd, hP, hD, h90, hcl⟩ := id hHR
  obtain ⟨q0, hq0⟩ := ma_pos hm hi
  have he := ma_ws_at (aC := aC) (ad := ad) (h := h) hq0
  rw [ma_E_arr (by omega), ma_ar_l] at he
  have hKt : va_K D maCl [(aC 101, .long)] s := ⟨hK.1, fun j q hq => by
    have hj : j < 1 := (List.getElem?_eq_some_iff.mp hq).1
    rw [show j = 0 by omega] at hq
    cases hq
    exact hKa _ _ rfl⟩
  have hin : vp_in j (h.2.2.2.1 101 i) := by
    rw [hj, vp_in, nI_clamp hb31]
    rintro (q | q)
    · exact nI_pos hb31 q
    · omega
  have e9 : j.toNatClampNeg = jn := by rw [hj]; exact nI_clamp hb31
  have hset := ma_ws_set (aC := aC) (ad := ad) (h := h) (h' := (h.1, h.2.1, ma_up h.2.2.1 101 i jn x, h.2.2.2)) (e := .inl (aC 101, h.2.2.2.1 101 i, .inr (.inl (vp_updL (h.2.2.1 101 i) jn x)))) hnd hq0 ((ma_E_arr (by omega)).trans (by
    have e1 : ma_up h.2.2.1 101 i jn x 101 i = vp_updL (h.2.2.1 101 i) jn x := by funext q; simp [ma_up, vp_updL]
    rw [ma_ar_l]; simp only [e1])) ma_E_upL
  have hcl1 : ma_cls (h.1, h.2.1, ma_up h.2.2.1 101 i jn x, h.2.2.2) := ⟨hcl.1, ma_cls_upL hcl.2 hi⟩
  refine va_last (D := D) hx hb hKt hP hD hS q0 0 he rfl hin hd (fun H1 locs1 hP1 hD1 hS1 => ?_)
  rw [e9] at hP1 hD1
  rw [hset] at hP1 hD1
  exact kk p l e R s m args below meth c H1 locs1 cells slots mc ms D aC A ad ad0 n0 L S3 hC ⟨hRm, ⟨Ls, hm, hnd, hP1, hD1, h90, hcl1⟩, hSX, hS1, hA, hEx, hL, hSt, fun h9 => nomatch h9⟩

theorem Go.aald {sc : Nat × (Nat → Int32)} {cl rd : Bool} {d bc bs : Nat} {y : MD} {pc : Nat} {ls st : List AV} {h : AH} {Q : GO → AH → Prop} {a i jn : Nat} {C : String} {j : Int32} {r : Nat × Nat} (hd : decode y.2.1 pc = .ok (.aaload, 1)) (ha : 110 ≤ a) (hty : ma_ty a = some (.object C)) (hj : j = nI jn) (hlt : jn < h.2.2.2.1 a i) (hb31 : jn < 2 ^ 31) (hr0 : h.2.1 a i jn = some r) (kk : Go sc cl rd d bc bs y (pc + 1) ls (vO r.1 r.2 :: st) h Q) : Go sc cl rd d bc bs y pc ls (vI j :: vO a i :: st) h Q := by
  intro p l e R s m args below meth c H locs cells slots mc ms D aC A ad ad0 n0 L S hC hDy
  obtain ⟨hx, hb, hml, hr, hown, hts, hlocks, hnm, hex, hK, hKa, hNc, hfl, hmH⟩ := id hC
  obtain ⟨hRm, hHR, hSX, hS, hA, hEx, hL, hSt, hCl⟩ := id hDy
  obtain ⟨z1, S1, rfl, rfl, z2, S2, rfl, hv, hSt⟩ := hSt
  obtain ⟨hi, rfl⟩ := ma_ref (Or.inr (by omega)) hv
  obtain ⟨Ls, hm, hnd, hP, hD, h90, hcl⟩ := id hHR
  obtain ⟨q0, hq0⟩ := ma_pos hm hi
  have he := ma_ws_at (aC := aC) (ad := ad) (h := h) hq0
  rw [ma_E_arr (by omega), ma_ar_q ha] at he
  have hKt : va_K D maCl [(aC a, .object C)] s := ⟨hK.1, fun j q hq => by
    have hj : j < 1 := (List.getElem?_eq_some_iff.mp hq).1
    rw [show j = 0 by omega] at hq
    cases hq
    exact hKa _ _ hty⟩
  have hin : vp_in j (h.2.2.2.1 a i) := by
    rw [hj, vp_in, nI_clamp hb31]
    rintro (q | q)
    · exact nI_pos hb31 q
    · omega
  have e9 : j.toNatClampNeg = jn := by rw [hj]; exact nI_clamp hb31
  have hr2 := (hcl.1 _ _ _ _ hi hr0)
  refine va_aldq (D := D) hx hb hKt hP q0 0 he rfl hin hd ?_
  rw [e9, hr0]
  exact kk p l e R s m args below meth c H locs cells slots mc ms D aC A ad ad0 n0 L (.ref (ad r.1 r.2) :: S2) hC ⟨hRm, hHR, hSX, hS, hA, hEx, hL, ⟨_, _, rfl, Or.inr (Or.inr ⟨hr2, rfl⟩), hSt⟩, hCl⟩

theorem Go.aast {sc : Nat × (Nat → Int32)} {cl rd : Bool} {d bc bs : Nat} {y : MD} {pc : Nat} {ls st : List AV} {h : AH} {Q : GO → AH → Prop} {a i jn c2 i2 : Nat} {q2 : vw_C} {j : Int32} (hd : decode y.2.1 pc = .ok (.aastore, 1)) (ha : 110 ≤ a) (hc2 : c2 < 90) (hq2 : maCl[c2]? = some q2) (hty : ma_ty a = some (.object q2.1)) (hj : j = nI jn) (hlt : jn < h.2.2.2.1 a i) (hb31 : jn < 2 ^ 31) (kk : Go sc false rd d bc bs y (pc + 1) ls st (h.1, ma_up h.2.1 a i jn (some (c2, i2)), h.2.2) Q) : Go sc cl rd d bc bs y pc ls (vO c2 i2 :: vI j :: vO a i :: st) h Q := by
  intro p l e R s m args below meth c H locs cells slots mc ms D aC A ad ad0 n0 L S hC hDy
  obtain ⟨hx, hb, hml, hr, hown, hts, hlocks, hnm, hex, hK, hKa, hNc, hfl, hmH⟩ := id hC
  obtain ⟨hRm, hHR, hSX, hS, hA, hEx, hL, hSt, hCl⟩ := id hDy
  obtain ⟨z0, S0, rfl, hv0, z1, S1, rfl, rfl, z2, S2, rfl, hv, hSt⟩ := hSt
  obtain ⟨hi0, rfl⟩ := ma_ref (Or.inl hc2) hv0
  obtain ⟨hi, rfl⟩ := ma_ref (Or.inr (by omega)) hv
  obtain ⟨Ls, hm, hnd, hP, hD, h90, hcl⟩ := id hHR
  obtain ⟨q0, hq0⟩ := ma_pos hm hi
  have he := ma_ws_at (aC := aC) (ad := ad) (h := h) hq0
  rw [ma_E_arr (by omega), ma_ar_q ha] at he
  have hKt : va_K D maCl [(aC a, .object q2.1)] s := ⟨hK.1, fun j q hq => by
    have hj : j < 1 := (List.getElem?_eq_some_iff.mp hq).1
    rw [show j = 0 by omega] at hq
    cases hq
    exact hKa _ _ hty⟩
  have hin : vp_in j (h.2.2.2.1 a i) := by
    rw [hj, vp_in, nI_clamp hb31]
    rintro (q | q)
    · exact nI_pos hb31 q
    · omega
  have e9 : j.toNatClampNeg = jn := by rw [hj]; exact nI_clamp hb31
  obtain ⟨q3, hq3⟩ := ma_pos hm hi0
  have he3 := ma_ws_at (aC := aC) (ad := ad) (h := h) hq3
  rw [ma_E_obj hc2] at he3
  have hset := ma_ws_set (aC := aC) (ad := ad) (h := h) (h' := (h.1, ma_up h.2.1 a i jn (some (c2, i2)), h.2.2)) (e := .inl (aC a, h.2.2.2.1 a i, .inr (.inr (.inr (.inr (va_up (fun j => (h.2.1 a i j).map (fun x => ad x.1 x.2)) jn (some (ad c2 i2)))))))) hnd hq0 ((ma_E_arr (by omega)).trans (by
    have e1 : (fun j => (ma_up h.2.1 a i jn (some (c2, i2)) a i j).map (fun x => ad x.1 x.2)) = va_up (fun j => (h.2.1 a i j).map (fun x => ad x.1 x.2)) jn (some (ad c2 i2)) := by
      funext q
      by_cases hq : q = jn
      · subst hq; simp [ma_up, va_up]
      · simp [ma_up, va_up, hq]
    rw [ma_ar_q ha]; simp only [e1])) ma_E_upR
  have hcl1 : ma_cls (h.1, ma_up h.2.1 a i jn (some (c2, i2)), h.2.2) := ma_cls_upR hcl hi hi0
  refine va_astq (D := D) hx hb hKt hP hD hS q0 0 q3 c2 he rfl he3 hq2 hin hd (fun H1 locs1 hP1 hD1 hS1 => ?_)
  rw [e9] at hP1 hD1
  rw [hset] at hP1 hD1
  exact kk p l e R s m args below meth c H1 locs1 cells slots mc ms D aC A ad ad0 n0 L S2 hC ⟨hRm, ⟨Ls, hm, hnd, hP1, hD1, h90, hcl1⟩, hSX, hS1, hA, hEx, hL, hSt, fun h9 => nomatch h9⟩

theorem Go.alen {sc : Nat × (Nat → Int32)} {cl rd : Bool} {d bc bs : Nat} {y : MD} {pc : Nat} {ls st : List AV} {h : AH} {Q : GO → AH → Prop} {a i : Nat} {ty : FieldType} (hd : decode y.2.1 pc = .ok (.arraylength, 1)) (ha : 100 ≤ a) (hty : ma_ty a = some ty) (kk : Go sc cl rd d bc bs y (pc + 1) ls (vI (Int32.ofNat (h.2.2.2.1 a i)) :: st) h Q) : Go sc cl rd d bc bs y pc ls (vO a i :: st) h Q := by
  intro p l e R s m args below meth c H locs cells slots mc ms D aC A ad ad0 n0 L S hC hDy
  obtain ⟨hx, hb, hml, hr, hown, hts, hlocks, hnm, hex, hK, hKa, hNc, hfl, hmH⟩ := id hC
  obtain ⟨hRm, hHR, hSX, hS, hA, hEx, hL, hSt, hCl⟩ := id hDy
  obtain ⟨z2, S2, rfl, hv, hSt⟩ := hSt
  obtain ⟨hi, rfl⟩ := ma_ref (Or.inr (by omega)) hv
  obtain ⟨Ls, hm, hnd, hP, hD, h90, hcl⟩ := id hHR
  obtain ⟨q0, hq0⟩ := ma_pos hm hi
  have he := ma_ws_at (aC := aC) (ad := ad) (h := h) hq0
  rw [ma_E_arr (by omega)] at he
  have hKt : va_K D maCl [(aC a, ty)] s := ⟨hK.1, fun j q hq => by
    have hj : j < 1 := (List.getElem?_eq_some_iff.mp hq).1
    rw [show j = 0 by omega] at hq
    cases hq
    exact hKa _ _ hty⟩
  exact va_alen (D := D) hx hb hKt hP q0 0 he rfl rfl hd (kk p l e R s m args below meth c H locs cells slots mc ms D aC A ad ad0 n0 L (.int (Int32.ofNat (h.2.2.2.1 a i)) :: S2) hC ⟨hRm, hHR, hSX, hS, hA, hEx, hL, ⟨_, _, rfl, rfl, hSt⟩, hCl⟩)

theorem Go.sald {sc : Nat × (Nat → Int32)} {cl rd : Bool} {d bc bs : Nat} {y : MD} {pc : Nat} {ls st : List AV} {h : AH} {Q : GO → AH → Prop} {jn : Nat} {j : Int32} (hd : decode y.2.1 pc = .ok (.iaload, 1)) (hj : j = nI jn) (hlt : jn < sc.1) (hb31 : jn < 2 ^ 31) (kk : Go sc cl rd d bc bs y (pc + 1) ls (vI (sc.2 jn) :: st) h Q) : Go sc cl rd d bc bs y pc ls (vI j :: vO 99 0 :: st) h Q := by
  intro p l e R s m args below meth c H locs cells slots mc ms D aC A ad ad0 n0 L S hC hDy
  obtain ⟨hx, hb, hml, hr, hown, hts, hlocks, hnm, hex, hK, hKa, hNc, hfl, hmH⟩ := id hC
  obtain ⟨hRm, hHR, hSX, hS, hA, hEx, hL, hSt, hCl⟩ := id hDy
  obtain ⟨z1, S1, rfl, rfl, z2, S2, rfl, hv, hSt⟩ := hSt
  have hz2 : z2 = .ref (ad 99 0) := by
    rcases hv with ⟨h1, -⟩ | ⟨-, h1⟩ | ⟨-, h1⟩
    · cases h1
    · exact h1
    · exact h1
  subst hz2
  have hin : vp_in j sc.1 := by
    rw [hj, vp_in, nI_clamp hb31]
    rintro (q | q)
    · exact nI_pos hb31 q
    · omega
  have e9 : j.toNatClampNeg = jn := by rw [hj]; exact nI_clamp hb31
  have k9 := kk p l e R s m args below meth c H locs cells slots mc ms D aC A ad ad0 n0 L (.int (sc.2 jn) :: S2) hC ⟨hRm, hHR, hSX, hS, hA, hEx, hL, ⟨_, _, rfl, rfl, hSt⟩, hCl⟩
  rw [← e9] at k9
  exact va_sld hx hb hSX.1 hSX.2.2.1 hSX.2.1 hS hin hd k9

theorem Go.slen {sc : Nat × (Nat → Int32)} {cl rd : Bool} {d bc bs : Nat} {y : MD} {pc : Nat} {ls st : List AV} {h : AH} {Q : GO → AH → Prop} (hd : decode y.2.1 pc = .ok (.arraylength, 1)) (kk : Go sc cl rd d bc bs y (pc + 1) ls (vI (Int32.ofNat sc.1) :: st) h Q) : Go sc cl rd d bc bs y pc ls (vO 99 0 :: st) h Q := by
  intro p l e R s m args below meth c H locs cells slots mc ms D aC A ad ad0 n0 L S hC hDy
  obtain ⟨hx, hb, hml, hr, hown, hts, hlocks, hnm, hex, hK, hKa, hNc, hfl, hmH⟩ := id hC
  obtain ⟨hRm, hHR, hSX, hS, hA, hEx, hL, hSt, hCl⟩ := id hDy
  obtain ⟨z2, S2, rfl, hv, hSt⟩ := hSt
  have hz2 : z2 = .ref (ad 99 0) := by
    rcases hv with ⟨h1, -⟩ | ⟨-, h1⟩ | ⟨-, h1⟩
    · cases h1
    · exact h1
    · exact h1
  subst hz2
  exact va_slen hx hb hSX.1 hSX.2.2.1 hSX.2.1 hS hd (kk p l e R s m args below meth c H locs cells slots mc ms D aC A ad ad0 n0 L (.int (Int32.ofNat sc.1) :: S2) hC ⟨hRm, hHR, hSX, hS, hA, hEx, hL, ⟨_, _, rfl, rfl, hSt⟩, hCl⟩)

def ma_al (h : AH) (k : Nat) : AH := (h.1, h.2.1, h.2.2.1, h.2.2.2.1, va_up (ma_n h) k (ma_n h k + 1))
def ma_aa (h : AH) (a N : Nat) : AH := (h.1, h.2.1, h.2.2.1, ma_u2 h.2.2.2.1 a (ma_n h a) N, va_up (ma_n h) a (ma_n h a + 1))
def ma_NW (own : String) (k idx : Nat) : Prop := ∃ (C : String) (T : u_T), maCl[k]? = some (C, T, ma_nf k) ∧ (∀ w ∈ u_ws C T (ma_nf k), w ∈ maT) ∧ Cond.classLink own idx C ∈ maT ∧ Cond.instantiable C (ma_nf k) ∈ maT ∧ Cond.initialized C ∈ maT ∧ (∀ j, j < ma_nf k → parseFieldDescriptor (T j).2.2.1 = some (ma_ft k j)) ∧ (∀ j, j < ma_nf k → defaultValue (ma_ft k j) = if ma_fk k j = true then .null else .int 0)
theorem ma_Ex_new {ad : Nat → Nat → Nat} {n : Nat → Nat} {k q : Nat} (hk : k < 90 ∨ 100 ≤ k) : ma_Ex ad n (ma_u2 ad k (n k) q) (va_up n k (n k + 1)) := by
  refine ⟨fun a i hi => ⟨?_, ?_⟩, ?_⟩
  · unfold ma_u2
    rw [if_neg]
    rintro ⟨rfl, rfl⟩
    omega
  · unfold va_up
    split
    · rename_i h; subst h; omega
    · exact hi
  · unfold ma_u2
    rw [if_neg]
    rintro ⟨h1, -⟩
    omega
theorem ma_ws_new {aC : Nat → ClassId} {ad : Nat → Nat → Nat} {h h' : AH} {Ls : List (Nat × Nat)} {k q : Nat} (hm : ∀ x, x ∈ Ls ↔ x.2 < ma_n h x.1) (hcl : ma_cls h) (e1 : h'.1 = h.1) (e2 : h'.2.1 = h.2.1) (e3 : h'.2.2.1 = h.2.2.1) (e4 : ∀ a i, i < ma_n h a → h'.2.2.2.1 a i = h.2.2.2.1 a i) : ma_ws aC (ma_u2 ad k (ma_n h k) q) h' Ls = ma_ws aC ad h Ls := by
  unfold ma_ws
  refine List.map_congr_left (fun x hx => ?_)
  have hx2 := (hm x).mp hx
  have a0 : ∀ r : Nat × Nat, r.2 < ma_n h r.1 → ma_u2 ad k (ma_n h k) q r.1 r.2 = ad r.1 r.2 := by
    intro r hr
    unfold ma_u2
    rw [if_neg]
    rintro ⟨h1, h2⟩
    rw [h1] at hr
    omega
  have a1 : ∀ j, ma_rf (ma_u2 ad k (ma_n h k) q) (h.2.1 x.1 x.2 j) = ma_rf ad (h.2.1 x.1 x.2 j) := by
    intro j
    cases hr : h.2.1 x.1 x.2 j with
    | none => rfl
    | some r => simp only [ma_rf]; rw [a0 r (hcl.1 _ _ _ _ hx2 hr)]
  have a2 : (fun j => (h.2.1 x.1 x.2 j).map (fun z => ma_u2 ad k (ma_n h k) q z.1 z.2)) = (fun j => (h.2.1 x.1 x.2 j).map (fun z => ad z.1 z.2)) := by
    funext j
    cases hr : h.2.1 x.1 x.2 j with
    | none => rfl
    | some r => simp only [Option.map_some]; rw [a0 r (hcl.1 _ _ _ _ hx2 hr)]
  rw [a0 x hx2]
  simp only [ma_E, ma_fs, ma_ar, e1, e2, e3, e4 x.1 x.2 hx2, a1, a2]
theorem ma_HR_new {D : va_G} {aC : Nat → ClassId} {A : Nat → Prop} {ad : Nat → Nat → Nat} {h h' : AH} {H1 : Heap} {Ls : List (Nat × Nat)} {k q : Nat} {e : va_E} (hk : k < 90 ∨ 100 ≤ k) (hm : ∀ x, x ∈ Ls ↔ x.2 < ma_n h x.1) (hnd : Ls.Nodup) (h90 : ∀ k, 90 ≤ k → k < 100 → ma_n h k = 0) (hcl : ma_cls h) (e1 : h'.1 = h.1) (e2 : h'.2.1 = h.2.1) (e3 : h'.2.2.1 = h.2.2.1) (e4 : ∀ a i, i < ma_n h a → h'.2.2.2.1 a i = h.2.2.2.1 a i) (e5 : ma_n h' = va_up (ma_n h) k (ma_n h k + 1))
    (hE : ma_E aC (ma_u2 ad k (ma_n h k) q) h' (k, ma_n h k) = e) (hP : va_P D maCl (ma_ws aC ad h Ls ++ [(q, e)]) H1) (hD : va_D A (ma_ws aC ad h Ls ++ [(q, e)])) : ma_HR D aC A (ma_u2 ad k (ma_n h k) q) h' H1 := by
  have hw : ma_ws aC (ma_u2 ad k (ma_n h k) q) h' (Ls ++ [(k, ma_n h k)]) = ma_ws aC ad h Ls ++ [(q, e)] := by
    have q1 := ma_ws_new (aC := aC) (ad := ad) (k := k) (q := q) hm hcl e1 e2 e3 e4
    unfold ma_ws at q1 ⊢
    rw [List.map_append, q1, List.map_singleton, hE]
    have : ma_u2 ad k (ma_n h k) q k (ma_n h k) = q := by simp [ma_u2]
    rw [this]
  refine ⟨Ls ++ [(k, ma_n h k)], fun x => ?_, ?_, by rw [hw]; exact hP, by rw [hw]; exact hD, fun a ha hb => ?_, fun a i j r hi hr => ?_, fun a i j hi => ?_⟩
  · rw [e5, List.mem_append, hm x, List.mem_singleton]
    unfold va_up
    constructor
    · rintro (hx | rfl)
      · split
        · rename_i h9; rw [h9] at hx; omega
        · exact hx
      · simp
    · intro hx
      split at hx
      · rename_i h9
        by_cases h8 : x.2 = ma_n h k
        · exact Or.inr (Prod.ext h9 h8)
        · exact Or.inl (by rw [h9]; omega)
      · exact Or.inl hx
  · rw [List.nodup_append]
    refine ⟨hnd, by simp, fun x hx z hz => ?_⟩
    rw [List.mem_singleton] at hz
    subst hz
    rintro rfl
    have := (hm _).mp hx
    dsimp only at this
    omega
  · rw [e5]
    unfold va_up
    rw [if_neg (by omega)]
    exact h90 a ha hb
  · rw [e2] at hr
    rw [e5] at hi ⊢
    have hi2 : i < ma_n h a := by
      rcases Nat.lt_or_ge i (ma_n h a) with q9 | q9
      · exact q9
      · rw [(hcl.2 a i j q9).2.1] at hr; cases hr
    have := hcl.1 a i j r hi2 hr
    unfold va_up
    split
    · rename_i h9; rw [h9] at this; omega
    · exact this
  · rw [e1, e2, e3]
    refine hcl.2 a i j ?_
    rw [e5] at hi
    unfold va_up at hi
    split at hi
    · rename_i h9; rw [h9]; omega
    · exact hi

theorem Go.new {sc : Nat × (Nat → Int32)} {cl rd : Bool} {d bc bs : Nat} {y : MD} {pc : Nat} {ls st : List AV} {h : AH} {Q : GO → AH → Prop} {k idx : Nat} (hd : decode y.2.1 pc = .ok (.new idx, 3)) (hw : ma_NW y.1.cls k idx) (hk : k < 90) (kk : Go sc false rd d bc bs y (pc + 3) ls (vO k (ma_n h k) :: st) (ma_al h k) Q) : Go sc cl rd d (bc + 1) (bs + ma_nf k) y pc ls st h Q := by
  intro p l e R s m args below meth c H locs cells slots mc ms D aC A ad ad0 n0 L S hC hDy
  obtain ⟨hx, hb, hml, hr, hown, hts, hlocks, hnm, hex, hK, hKa, hNc, hfl, hmH⟩ := id hC
  obtain ⟨hRm, hHR, hSX, hS, hA, hEx, hL, hSt, hCl⟩ := id hDy
  obtain ⟨C, T, hc, hin, hlk, hins, hini, htys, hdf⟩ := hw
  obtain ⟨Ls, hm, hnd, hP, hD, h90, hcl⟩ := id hHR
  obtain ⟨r1, r2, r3, r4, r5, r6⟩ := hRm
  have hfs : ∀ j, j < ma_nf k → defaultValue (ma_ft k j) = vp_V (ma_fs ad h k (ma_n h k)) j := by
    intro j hj
    rw [hdf j hj]
    have hz := hcl.2 k (ma_n h k) j (Nat.le_refl _)
    cases hfk : ma_fk k j with
    | true => simp [vp_V, ma_fs_ref hj hfk, hz.2.1, ma_rf]
    | false => simp [vp_V, ma_fs_int hj hfk, hz.1]
  refine va_new (D := D) (C := C) (T := T) (fs := ma_fs ad h k (ma_n h k)) hx hb hts hin (ma_ft k) htys hown (hts _ hlk) (hts _ hins) (hts _ hini) hK hP hD hS hA hc hfs (by omega) (by omega) hd (fun q H1 hP1 hD1 hS1 => ?_)
  have hE9 : ma_E aC (ma_u2 ad k (ma_n h k) q) (ma_al h k) (k, ma_n h k) = .inr (k, ma_fs ad h k (ma_n h k)) := by
    rw [ma_E_obj hk]
    have hz : ∀ j, h.2.1 k (ma_n h k) j = none := fun j => (hcl.2 k (ma_n h k) j (Nat.le_refl _)).2.1
    simp [ma_fs, ma_al, hz, ma_rf]
  have hHR1 : ma_HR D aC A (ma_u2 ad k (ma_n h k) q) (ma_al h k) H1 := ma_HR_new (Or.inl hk) hm hnd h90 hcl rfl rfl rfl (fun _ _ _ => rfl) rfl hE9 hP1 hD1
  have hX9 : ma_Ex ad (ma_n h) (ma_u2 ad k (ma_n h k) q) (ma_n (ma_al h k)) := ma_Ex_new (Or.inl hk)
  have hSX9 : ma_SX sc A (ma_u2 ad k (ma_n h k) q) s := by unfold ma_SX; rw [hX9.2]; exact hSX
  exact kk p l e R s m args below meth c H1 locs (cells + 1) (slots + ma_nf k) mc ms D aC A (ma_u2 ad k (ma_n h k) q) ad0 n0 L (.ref q :: S) hC ⟨⟨r1, r2, by omega, by omega, r5, r6⟩, hHR1, hSX9, hS1, hA, ma_Ex_tr hEx hX9, ma_LR_ext hX9 hL, ⟨_, _, rfl, Or.inr (Or.inr ⟨by show ma_n h k < va_up (ma_n h) k (ma_n h k + 1) k; simp [va_up], by simp [ma_u2]⟩), ma_SR_ext hX9 hSt⟩, fun h9 => nomatch h9⟩

theorem Go.newi {sc : Nat × (Nat → Int32)} {cl rd : Bool} {d bc bs : Nat} {y : MD} {pc : Nat} {ls st : List AV} {h : AH} {Q : GO → AH → Prop} {N : Nat} {x : Int32} (hd : decode y.2.1 pc = .ok (.newarray .int, 2)) (hw : Cond.arrayClass .int ∈ maT) (hN : x = nI N) (hs : N < 65536) (kk : Go sc false rd d bc bs y (pc + 2) ls (vO 100 (ma_n h 100) :: st) (ma_aa h 100 N) Q) : Go sc cl rd d (bc + 1) (bs + N) y pc ls (vI x :: st) h Q := by
  intro p l e R s m args below meth c H locs cells slots mc ms D aC A ad ad0 n0 L S hC hDy
  obtain ⟨hx, hb, hml, hr, hown, hts, hlocks, hnm, hex, hK, hKa, hNc, hfl, hmH⟩ := id hC
  obtain ⟨hRm, hHR, hSX, hS, hA, hEx, hL, hSt, hCl⟩ := id hDy
  obtain ⟨z1, S1, rfl, rfl, hSt⟩ := hSt
  obtain ⟨Ls, hm, hnd, hP, hD, h90, hcl⟩ := id hHR
  obtain ⟨r1, r2, r3, r4, r5, r6⟩ := hRm
  subst hN
  have hc9 : (nI N).toNatClampNeg = N := nI_clamp (by omega)
  refine va_newa (D := D) (atype := .int) (ty := .int) (a0 := (N, .inl (fun _ => 0))) hx hb (hts _ hw) rfl hK hP hD hS hA (fun cA => by first | rfl | simp [vp_cell, defaultValue]) (nI_pos (by omega)) hc9 (by simp only [componentBytes]; omega) (by omega) (by omega) hd (fun q cA H1 hK1 hP1 hD1 hS1 => ?_)
  have hcA : cA = aC 100 := by
    have e1 : s.vm.findClass ("[" ++ (.int : FieldType).toString) = some cA := (hK1.2 0 (cA, .int) rfl).2
    have e2 : s.vm.findClass ("[" ++ (.int : FieldType).toString) = some (aC 100) := (hKa 100 .int rfl).2
    exact Option.some.inj (e1.symm.trans e2)
  subst hcA
  have hE9 : ma_E aC (ma_u2 ad 100 (ma_n h 100) q) (ma_aa h 100 N) (100, ma_n h 100) = .inl (aC 100, N, .inl (fun _ => 0)) := by
    rw [ma_E_arr (by omega)]
    have hz : h.1 100 (ma_n h 100) = fun _ => 0 := by funext j; exact (hcl.2 100 (ma_n h 100) j (Nat.le_refl _)).1
    simp [ma_ar, ma_aa, ma_u2, hz]
  have hHR1 : ma_HR D aC A (ma_u2 ad 100 (ma_n h 100) q) (ma_aa h 100 N) H1 := ma_HR_new (Or.inr (by omega)) hm hnd h90 hcl rfl rfl rfl (fun a i hi => by
    show ma_u2 _ _ _ _ a i = _
    unfold ma_u2
    rw [if_neg]
    rintro ⟨rfl, rfl⟩
    omega) rfl hE9 hP1 hD1
  have hX9 : ma_Ex ad (ma_n h) (ma_u2 ad 100 (ma_n h 100) q) (ma_n (ma_aa h 100 N)) := ma_Ex_new (Or.inr (by omega))
  have hSX9 : ma_SX sc A (ma_u2 ad 100 (ma_n h 100) q) s := by unfold ma_SX; rw [hX9.2]; exact hSX
  exact kk p l e R s m args below meth c H1 locs (cells + 1) (slots + N) mc ms D aC A (ma_u2 ad 100 (ma_n h 100) q) ad0 n0 L (.ref q :: S1) hC ⟨⟨r1, r2, by omega, by omega, r5, r6⟩, hHR1, hSX9, hS1, hA, ma_Ex_tr hEx hX9, ma_LR_ext hX9 hL, ⟨_, _, rfl, Or.inr (Or.inr ⟨by show ma_n h 100 < va_up (ma_n h) 100 (ma_n h 100 + 1) 100; simp [va_up], by simp [ma_u2]⟩), ma_SR_ext hX9 hSt⟩, fun h9 => nomatch h9⟩

theorem Go.newz {sc : Nat × (Nat → Int32)} {cl rd : Bool} {d bc bs : Nat} {y : MD} {pc : Nat} {ls st : List AV} {h : AH} {Q : GO → AH → Prop} {N : Nat} {x : Int32} (hd : decode y.2.1 pc = .ok (.newarray .boolean, 2)) (hw : Cond.arrayClass .boolean ∈ maT) (hN : x = nI N) (hs : N < 65536) (kk : Go sc false rd d bc bs y (pc + 2) ls (vO 102 (ma_n h 102) :: st) (ma_aa h 102 N) Q) : Go sc cl rd d (bc + 1) (bs + N) y pc ls (vI x :: st) h Q := by
  intro p l e R s m args below meth c H locs cells slots mc ms D aC A ad ad0 n0 L S hC hDy
  obtain ⟨hx, hb, hml, hr, hown, hts, hlocks, hnm, hex, hK, hKa, hNc, hfl, hmH⟩ := id hC
  obtain ⟨hRm, hHR, hSX, hS, hA, hEx, hL, hSt, hCl⟩ := id hDy
  obtain ⟨z1, S1, rfl, rfl, hSt⟩ := hSt
  obtain ⟨Ls, hm, hnd, hP, hD, h90, hcl⟩ := id hHR
  obtain ⟨r1, r2, r3, r4, r5, r6⟩ := hRm
  subst hN
  have hc9 : (nI N).toNatClampNeg = N := nI_clamp (by omega)
  refine va_newa (D := D) (atype := .boolean) (ty := .boolean) (a0 := (N, .inl (fun _ => 0))) hx hb (hts _ hw) rfl hK hP hD hS hA (fun cA => by first | rfl | simp [vp_cell, defaultValue]) (nI_pos (by omega)) hc9 (by simp only [componentBytes]; omega) (by omega) (by omega) hd (fun q cA H1 hK1 hP1 hD1 hS1 => ?_)
  have hcA : cA = aC 102 := by
    have e1 : s.vm.findClass ("[" ++ (.boolean : FieldType).toString) = some cA := (hK1.2 0 (cA, .boolean) rfl).2
    have e2 : s.vm.findClass ("[" ++ (.boolean : FieldType).toString) = some (aC 102) := (hKa 102 .boolean rfl).2
    exact Option.some.inj (e1.symm.trans e2)
  subst hcA
  have hE9 : ma_E aC (ma_u2 ad 102 (ma_n h 102) q) (ma_aa h 102 N) (102, ma_n h 102) = .inl (aC 102, N, .inl (fun _ => 0)) := by
    rw [ma_E_arr (by omega)]
    have hz : h.1 102 (ma_n h 102) = fun _ => 0 := by funext j; exact (hcl.2 102 (ma_n h 102) j (Nat.le_refl _)).1
    simp [ma_ar, ma_aa, ma_u2, hz]
  have hHR1 : ma_HR D aC A (ma_u2 ad 102 (ma_n h 102) q) (ma_aa h 102 N) H1 := ma_HR_new (Or.inr (by omega)) hm hnd h90 hcl rfl rfl rfl (fun a i hi => by
    show ma_u2 _ _ _ _ a i = _
    unfold ma_u2
    rw [if_neg]
    rintro ⟨rfl, rfl⟩
    omega) rfl hE9 hP1 hD1
  have hX9 : ma_Ex ad (ma_n h) (ma_u2 ad 102 (ma_n h 102) q) (ma_n (ma_aa h 102 N)) := ma_Ex_new (Or.inr (by omega))
  have hSX9 : ma_SX sc A (ma_u2 ad 102 (ma_n h 102) q) s := by unfold ma_SX; rw [hX9.2]; exact hSX
  exact kk p l e R s m args below meth c H1 locs (cells + 1) (slots + N) mc ms D aC A (ma_u2 ad 102 (ma_n h 102) q) ad0 n0 L (.ref q :: S1) hC ⟨⟨r1, r2, by omega, by omega, r5, r6⟩, hHR1, hSX9, hS1, hA, ma_Ex_tr hEx hX9, ma_LR_ext hX9 hL, ⟨_, _, rfl, Or.inr (Or.inr ⟨by show ma_n h 102 < va_up (ma_n h) 102 (ma_n h 102 + 1) 102; simp [va_up], by simp [ma_u2]⟩), ma_SR_ext hX9 hSt⟩, fun h9 => nomatch h9⟩

theorem Go.newl {sc : Nat × (Nat → Int32)} {cl rd : Bool} {d bc bs : Nat} {y : MD} {pc : Nat} {ls st : List AV} {h : AH} {Q : GO → AH → Prop} {N : Nat} {x : Int32} (hd : decode y.2.1 pc = .ok (.newarray .long, 2)) (hw : Cond.arrayClass .long ∈ maT) (hN : x = nI N) (hs : N < 65536) (kk : Go sc false rd d bc bs y (pc + 2) ls (vO 101 (ma_n h 101) :: st) (ma_aa h 101 N) Q) : Go sc cl rd d (bc + 1) (bs + N) y pc ls (vI x :: st) h Q := by
  intro p l e R s m args below meth c H locs cells slots mc ms D aC A ad ad0 n0 L S hC hDy
  obtain ⟨hx, hb, hml, hr, hown, hts, hlocks, hnm, hex, hK, hKa, hNc, hfl, hmH⟩ := id hC
  obtain ⟨hRm, hHR, hSX, hS, hA, hEx, hL, hSt, hCl⟩ := id hDy
  obtain ⟨z1, S1, rfl, rfl, hSt⟩ := hSt
  obtain ⟨Ls, hm, hnd, hP, hD, h90, hcl⟩ := id hHR
  obtain ⟨r1, r2, r3, r4, r5, r6⟩ := hRm
  subst hN
  have hc9 : (nI N).toNatClampNeg = N := nI_clamp (by omega)
  refine va_newa (D := D) (atype := .long) (ty := .long) (a0 := (N, .inr (.inl (fun _ => 0)))) hx hb (hts _ hw) rfl hK hP hD hS hA (fun cA => by first | rfl | simp [vp_cell, defaultValue]) (nI_pos (by omega)) hc9 (by simp only [componentBytes]; omega) (by omega) (by omega) hd (fun q cA H1 hK1 hP1 hD1 hS1 => ?_)
  have hcA : cA = aC 101 := by
    have e1 : s.vm.findClass ("[" ++ (.long : FieldType).toString) = some cA := (hK1.2 0 (cA, .long) rfl).2
    have e2 : s.vm.findClass ("[" ++ (.long : FieldType).toString) = some (aC 101) := (hKa 101 .long rfl).2
    exact Option.some.inj (e1.symm.trans e2)
  subst hcA
  have hE9 : ma_E aC (ma_u2 ad 101 (ma_n h 101) q) (ma_aa h 101 N) (101, ma_n h 101) = .inl (aC 101, N, .inr (.inl (fun _ => 0))) := by
    rw [ma_E_arr (by omega)]
    have hz : h.2.2.1 101 (ma_n h 101) = fun _ => 0 := by funext j; exact (hcl.2 101 (ma_n h 101) j (Nat.le_refl _)).2.2
    simp [ma_ar, ma_aa, ma_u2, hz]
  have hHR1 : ma_HR D aC A (ma_u2 ad 101 (ma_n h 101) q) (ma_aa h 101 N) H1 := ma_HR_new (Or.inr (by omega)) hm hnd h90 hcl rfl rfl rfl (fun a i hi => by
    show ma_u2 _ _ _ _ a i = _
    unfold ma_u2
    rw [if_neg]
    rintro ⟨rfl, rfl⟩
    omega) rfl hE9 hP1 hD1
  have hX9 : ma_Ex ad (ma_n h) (ma_u2 ad 101 (ma_n h 101) q) (ma_n (ma_aa h 101 N)) := ma_Ex_new (Or.inr (by omega))
  have hSX9 : ma_SX sc A (ma_u2 ad 101 (ma_n h 101) q) s := by unfold ma_SX; rw [hX9.2]; exact hSX
  exact kk p l e R s m args below meth c H1 locs (cells + 1) (slots + N) mc ms D aC A (ma_u2 ad 101 (ma_n h 101) q) ad0 n0 L (.ref q :: S1) hC ⟨⟨r1, r2, by omega, by omega, r5, r6⟩, hHR1, hSX9, hS1, hA, ma_Ex_tr hEx hX9, ma_LR_ext hX9 hL, ⟨_, _, rfl, Or.inr (Or.inr ⟨by show ma_n h 101 < va_up (ma_n h) 101 (ma_n h 101 + 1) 101; simp [va_up], by simp [ma_u2]⟩), ma_SR_ext hX9 hSt⟩, fun h9 => nomatch h9⟩

theorem Go.newq {sc : Nat × (Nat → Int32)} {cl rd : Bool} {d bc bs : Nat} {y : MD} {pc : Nat} {ls st : List AV} {h : AH} {Q : GO → AH → Prop} {a idx N : Nat} {C : String} {x : Int32} (hd : decode y.2.1 pc = .ok (.anewarray idx, 3)) (ha : 110 ≤ a) (hty : ma_ty a = some (.object C)) (hlk : Cond.classLink y.1.cls idx C ∈ maT) (hov : Cond.arrayOver (.object C) ∈ maT) (hN : x = nI N) (hs : N < 65536) (kk : Go sc false rd d bc bs y (pc + 3) ls (vO a (ma_n h a) :: st) (ma_aa h a N) Q) : Go sc cl rd d (bc + 1) (bs + N) y pc ls (vI x :: st) h Q := by
  intro p l e R s m args below meth c H locs cells slots mc ms D aC A ad ad0 n0 L S hC hDy
  obtain ⟨hx, hb, hml, hr, hown, hts, hlocks, hnm, hex, hK, hKa, hNc, hfl, hmH⟩ := id hC
  obtain ⟨hRm, hHR, hSX, hS, hA, hEx, hL, hSt, hCl⟩ := id hDy
  obtain ⟨z1, S1, rfl, rfl, hSt⟩ := hSt
  obtain ⟨Ls, hm, hnd, hP, hD, h90, hcl⟩ := id hHR
  obtain ⟨r1, r2, r3, r4, r5, r6⟩ := hRm
  subst hN
  have hc9 : (nI N).toNatClampNeg = N := nI_clamp (by omega)
  have n1 : ¬ a = 100 := by omega
  have n2 : ¬ a = 101 := by omega
  refine va_newq (D := D) (C := C) hx hb hown (hts _ hlk) (va_AO.of (hts _ hov)) hK hP hD hS hA (nI_pos (by omega)) hc9 (by omega) (by omega) (by omega) hd (fun q cA H1 hK1 hP1 hD1 hS1 => ?_)
  have hcA : cA = aC a := by
    obtain ⟨_, _, _, _, _, e1⟩ := (hK1.2 0 (cA, .object C) rfl).2
    obtain ⟨_, _, _, _, _, e2⟩ := (hKa a (.object C) hty).2
    exact Option.some.inj (e1.symm.trans e2)
  subst hcA
  have hE9 : ma_E aC (ma_u2 ad a (ma_n h a) q) (ma_aa h a N) (a, ma_n h a) = .inl (aC a, N, .inr (.inr (.inr (.inr (fun _ => none))))) := by
    rw [ma_E_arr (by omega)]
    have hz : ∀ j, h.2.1 a (ma_n h a) j = none := fun j => (hcl.2 a (ma_n h a) j (Nat.le_refl _)).2.1
    have n1 : ¬ a = 101 := by omega
    have n2 : ¬ a < 110 := by omega
    simp [ma_ar, ma_aa, ma_u2, hz, n1, n2]
  have hHR1 : ma_HR D aC A (ma_u2 ad a (ma_n h a) q) (ma_aa h a N) H1 := ma_HR_new (Or.inr (by omega)) hm hnd h90 hcl rfl rfl rfl (fun b i hi => by
    show ma_u2 _ _ _ _ b i = _
    unfold ma_u2
    rw [if_neg]
    rintro ⟨rfl, rfl⟩
    omega) rfl hE9 hP1 hD1
  have hX9 : ma_Ex ad (ma_n h) (ma_u2 ad a (ma_n h a) q) (ma_n (ma_aa h a N)) := ma_Ex_new (Or.inr (by omega))
  have hSX9 : ma_SX sc A (ma_u2 ad a (ma_n h a) q) s := by unfold ma_SX; rw [hX9.2]; exact hSX
  exact kk p l e R s m args below meth c H1 locs (cells + 1) (slots + N) mc ms D aC A (ma_u2 ad a (ma_n h a) q) ad0 n0 L (.ref q :: S1) hC ⟨⟨r1, r2, by omega, by omega, r5, r6⟩, hHR1, hSX9, hS1, hA, ma_Ex_tr hEx hX9, ma_LR_ext hX9 hL, ⟨_, _, rfl, Or.inr (Or.inr ⟨by show ma_n h a < va_up (ma_n h) a (ma_n h a + 1) a; simp [va_up], by simp [ma_u2]⟩), ma_SR_ext hX9 hSt⟩, fun h9 => nomatch h9⟩

theorem Go.iret {sc : Nat × (Nat → Int32)} {cl rd : Bool} {d bc bs : Nat} {y : MD} {pc : Nat} {ls : List AV} {h : AH} {Q : GO → AH → Prop} {v : Int32} {ty : FieldType} (hd : decode y.2.1 pc = .ok (.ireturn, 1)) (hty : y.2.2.2.1 = some ty) (hn : narrow ty (.int v) = .int v) (hrd : rd = true → cl = true) (hQ : Q (.inl (some (vI v))) h) : Go sc cl rd d bc bs y pc ls [vI v] h Q := by
  intro p l e R s m args below meth c H locs cells slots mc ms D aC A ad ad0 n0 L S hC hDy
  obtain ⟨hx, hb, hml, hr, hown, hts, hlocks, hnm, hex, hK, hKa, hNc, hfl, hmH⟩ := id hC
  obtain ⟨hRm, hHR, hSX, hS, hA, hEx, hL, hSt, hCl⟩ := id hDy
  obtain ⟨z1, S1, rfl, rfl, rfl⟩ := hSt
  obtain ⟨r1, r2, r3, r4, r5, r6⟩ := hRm
  refine ma_W_mono ?_ (W.zret hx hb (hr.trans hty) hn (Qc := fun _ _ o t => o = .returned (some (.int v)) ∧ t.heap = H) (free := fun q => ∃ z ∈ locs, z.base = q) (fun t ht _ => ⟨rfl, ht⟩) (fun q hq => ⟨q, hq, rfl⟩) hd)
  rintro t ⟨o, h1, h2, ⟨rfl, h3⟩, L9, ⟨-, h5, h6⟩, h7⟩
  exact ⟨_, h1, h2, h5, ⟨L9, h6.mono (by omega) (by omega), fun q hq => by obtain ⟨z, z1, z2⟩ := h7 q hq; rw [← z2]; exact hS.2.2 z z1, fun h9 => by
    cases L9 with
    | nil => rfl
    | cons q r =>
      obtain ⟨z, z1, -⟩ := h7 q List.mem_cons_self
      rw [(hCl (hrd h9)).1] at z1
      cases z1⟩, hS.F h3, .inl (some (vI v)), h, ad, hQ, ⟨_, rfl, rfl⟩, by rw [h3]; exact hHR, hEx⟩

theorem Go.vret {sc : Nat × (Nat → Int32)} {cl rd : Bool} {d bc bs : Nat} {y : MD} {pc : Nat} {ls : List AV} {h : AH} {Q : GO → AH → Prop} (hd : decode y.2.1 pc = .ok (.return_, 1)) (hty : y.2.2.2.1 = none) (hrd : rd = true → cl = true) (hQ : Q (.inl none) h) : Go sc cl rd d bc bs y pc ls [] h Q := by
  intro p l e R s m args below meth c H locs cells slots mc ms D aC A ad ad0 n0 L S hC hDy
  obtain ⟨hx, hb, hml, hr, hown, hts, hlocks, hnm, hex, hK, hKa, hNc, hfl, hmH⟩ := id hC
  obtain ⟨hRm, hHR, hSX, hS, hA, hEx, hL, hSt, hCl⟩ := id hDy
  cases hSt
  obtain ⟨r1, r2, r3, r4, r5, r6⟩ := hRm
  refine ma_W_mono ?_ (W.vret hx hb (hr.trans hty) (Qc := fun _ _ o t => o = .returned none ∧ t.heap = H) (free := fun q => ∃ z ∈ locs, z.base = q) (fun t ht _ => ⟨rfl, ht⟩) (fun q hq => ⟨q, hq, rfl⟩) hd)
  rintro t ⟨o, h1, h2, ⟨rfl, h3⟩, L9, ⟨-, h5, h6⟩, h7⟩
  exact ⟨_, h1, h2, h5, ⟨L9, h6.mono (by omega) (by omega), fun q hq => by obtain ⟨z, z1, z2⟩ := h7 q hq; rw [← z2]; exact hS.2.2 z z1, fun h9 => by
    cases L9 with
    | nil => rfl
    | cons q r =>
      obtain ⟨z, z1, -⟩ := h7 q List.mem_cons_self
      rw [(hCl (hrd h9)).1] at z1
      cases z1⟩, hS.F h3, .inl (none), h, ad, hQ, rfl, by rw [h3]; exact hHR, hEx⟩

theorem Go.aret {sc : Nat × (Nat → Int32)} {cl rd : Bool} {d bc bs : Nat} {y : MD} {pc : Nat} {ls : List AV} {h : AH} {Q : GO → AH → Prop} {k i : Nat} {C : String} (hd : decode y.2.1 pc = .ok (.areturn, 1)) (hty : y.2.2.2.1 = some (.object C)) (hrd : rd = true → cl = true) (hQ : Q (.inl (some (vO k i))) h) : Go sc cl rd d bc bs y pc ls [vO k i] h Q := by
  intro p l e R s m args below meth c H locs cells slots mc ms D aC A ad ad0 n0 L S hC hDy
  obtain ⟨hx, hb, hml, hr, hown, hts, hlocks, hnm, hex, hK, hKa, hNc, hfl, hmH⟩ := id hC
  obtain ⟨hRm, hHR, hSX, hS, hA, hEx, hL, hSt, hCl⟩ := id hDy
  obtain ⟨z1, S1, rfl, hv, rfl⟩ := hSt
  have hv' : ∃ a, z1 = .ref a := by
    rcases hv with ⟨-, a, rfl⟩ | ⟨-, rfl⟩ | ⟨-, rfl⟩ <;> exact ⟨_, rfl⟩
  obtain ⟨q, rfl⟩ := hv'
  obtain ⟨r1, r2, r3, r4, r5, r6⟩ := hRm
  refine ma_W_mono ?_ (W.aret (v := .ref q) hx hb (hr.trans hty) (Or.inl ⟨_, rfl⟩) (Or.inr ⟨_, rfl⟩) (Qc := fun _ _ o t => o = .returned (some (.ref q)) ∧ t.heap = H) (free := fun q => ∃ z ∈ locs, z.base = q) (fun t ht _ => ⟨rfl, ht⟩) (fun q hq => ⟨q, hq, rfl⟩) hd)
  rintro t ⟨o, h1, h2, ⟨rfl, h3⟩, L9, ⟨-, h5, h6⟩, h7⟩
  exact ⟨_, h1, h2, h5, ⟨L9, h6.mono (by omega) (by omega), fun q hq => by obtain ⟨z, z1, z2⟩ := h7 q hq; rw [← z2]; exact hS.2.2 z z1, fun h9 => by
    cases L9 with
    | nil => rfl
    | cons q r =>
      obtain ⟨z, z1, -⟩ := h7 q List.mem_cons_self
      rw [(hCl (hrd h9)).1] at z1
      cases z1⟩, hS.F h3, .inl (some (vO k i)), h, ad, hQ, ⟨_, rfl, hv⟩, by rw [h3]; exact hHR, hEx⟩
end
section
/-! CALLS: a callee's Go becomes a step of the caller -/
theorem ma_weaken {tb : Tables} {e : Env} {g : Frame} {below : List Frame} {a b : State} (h : Steps tb e (g :: below) a b) : Steps tb e below a b := by
  obtain ⟨n, hn, w⟩ := h
  exact ⟨n, hn, fun k hk => Within.weaken (mid := [g]) (w k hk)⟩
def ma_CW (y2 : MD) : Prop := (y2.2.2.2.2 = [] ∧ Cond.code y2.1 y2.2.1 y2.2.2.1 y2.2.2.2.1 ∈ maT) ∨ Cond.codeWith y2.1 y2.2.1 y2.2.2.1 y2.2.2.2.1 y2.2.2.2.2 ∈ maT
theorem ma_CW_spec {y2 : MD} {args : Array Value} {s : State} (hts : ∀ w ∈ maT, w.before args s = true) (h : ma_CW y2) : ∃ mk meth c, s.methodNamed? y2.1 = some mk ∧ s.vm.method? mk = some meth ∧ meth.code = some c ∧ c.code = y2.2.1 ∧ c.maxLocals = y2.2.2.1 ∧ meth.sig.returnType = y2.2.2.2.1 ∧ meth.locks = false ∧ c.exceptionTable.toList = tableOf y2.2.2.2.2 ∧ parseMethodDescriptor y2.1.desc = some meth.sig := by
  rcases h with ⟨h0, h⟩ | h
  · obtain ⟨mk, hn⟩ := Cond.code_named (hts _ h)
    obtain ⟨meth, c, h1, h2, h3, h4, h5, h6, h7, h8⟩ := Cond.code_spec hn (hts _ h)
    refine ⟨mk, meth, c, hn, h1, h2, h3, h4, h5, h6, ?_, h8⟩
    rw [h0]
    have h9 : c.exceptionTable = #[] := by simpa using h7
    rw [h9]
    rfl
  · obtain ⟨mk, meth, c, hn, h1, h2, h3, h4, h7, h5, h6, h8⟩ := Cond.codeWith_spec (hts _ h)
    exact ⟨mk, meth, c, hn, h1, h2, h3, h4, h5, h6, by rw [← h7]; exact (table_eq _).symm, h8⟩
theorem ma_SR_get {ad : Nat → Nat → Nat} {n : Nat → Nat} : ∀ {vs : List AV} {As : List Value} {k : Nat} {v : AV}, ma_SR ad n vs As → vs[k]? = some v → ∃ x, As[k]? = some x ∧ ma_RV ad n v x
  | [], _, _, _, _, h => by simp at h
  | _ :: _, _, 0, _, ⟨x, S', e, h1, _⟩, h => by subst e; simp at h; subst h; exact ⟨x, rfl, h1⟩
  | _ :: _, _, k + 1, _, ⟨x, S', e, _, h2⟩, h => by subst e; simp at h; obtain ⟨z, h3, h4⟩ := ma_SR_get h2 h; exact ⟨z, by simpa using h3, h4⟩
theorem ma_SR_len {ad : Nat → Nat → Nat} {n : Nat → Nat} : ∀ {vs : List AV} {As : List Value}, ma_SR ad n vs As → As.length = vs.length
  | [], _, h => by cases h; rfl
  | _ :: _, _, ⟨x, S', e, _, h2⟩ => by subst e; simp [ma_SR_len h2]
theorem ma_sl {ad : Nat → Nat → Nat} {n : Nat → Nat} : ∀ {vs : List AV} {As : List Value}, ma_SR ad n vs As → (∀ v ∈ vs, ma_nl v) → lg_sl As = As.map Slot.val
  | [], _, h, _ => by cases h; rfl
  | v :: vs, _, ⟨x, S', e, h1, h2⟩, hn => by
    subst e
    have h3 := ma_sl h2 (fun w hw => hn w (List.mem_cons_of_mem _ hw))
    have h4 : x.category = 1 := ma_RV_cat (hn v List.mem_cons_self) h1
    unfold lg_sl at h3 ⊢
    rw [List.flatMap_cons, h3]
    simp [h4]
theorem ma_LR_entry {ad : Nat → Nat → Nat} {n : Nat → Nat} {vs : List AV} {As : List Value} {N : Nat} (h : ma_SR ad n vs As) (hn : ∀ v ∈ vs, ma_nl v) (hN : vs.length ≤ N) : ma_LR ad n N (vs ++ List.replicate (N - vs.length) vU) ((lg_sl As ++ List.replicate (N - (lg_sl As).length) Slot.unset).toArray) := by
  have e1 := ma_sl h hn
  have e2 := ma_SR_len h
  have hl := lv_entry As (n := N) (by rw [e1, List.length_map, e2]; exact hN)
  refine ⟨hl.1, hl.2.1, fun k v hk => ?_⟩
  by_cases hkl : k < vs.length
  · rw [List.getElem?_append_left hkl] at hk
    obtain ⟨x, q1, q2⟩ := ma_SR_get h hk
    refine Or.inr ⟨hn v (List.mem_of_getElem? hk), x, ?_, q2⟩
    rw [List.getElem?_toArray, e1, List.getElem?_append_left (by rw [List.length_map, e2]; exact hkl), List.getElem?_map, q1]
    rfl
  · rw [List.getElem?_append_right (by omega)] at hk
    exact Or.inl (List.eq_of_mem_replicate (List.mem_of_getElem? hk))
theorem ma_exc {args : Array Value} {s : State} {k : Nat} {cX : ClassId} (hts : ∀ w ∈ maT, w.before args s = true) (h : s.vm.findClass (ma_en k) = some cX) : ∃ kX : Class, s.vm.classes[cX]? = some kX ∧ kX.kind = .ordinary := by
  have hi : Cond.instantiable (ma_en k) 6 ∈ maT := by
    unfold ma_en
    split
    · exact ma_in (by decide +kernel) rfl
    · exact ma_in (by decide +kernel) rfl
    · exact ma_in (by decide +kernel) rfl
    · exact ma_in (by decide +kernel) rfl
  obtain ⟨c1, kX, h1, h2, h3, -⟩ := Cond.instantiable_spec (hts _ hi)
  cases h.symm.trans h1
  exact ⟨kX, h2, h3⟩
/-- the handler that takes an exception of the kind k thrown at pc -/
def ma_hs (own : String) (pc k : Nat) : List (Nat × Nat × Nat × Nat) → Nat → Prop
  | [], _ => False
  | q :: r, tgt => (covers ⟨q.1, q.2.1, q.2.2.1, q.2.2.2⟩ pc = false ∧ ma_hs own pc k r tgt) ∨ (covers ⟨q.1, q.2.1, q.2.2.1, q.2.2.2⟩ pc = true ∧ q.2.2.2 ≠ 0 ∧ ∃ C, Cond.classLink own q.2.2.2 C ∈ maT ∧ ((C = ma_en k ∧ tgt = q.2.2.1) ∨ ((∃ j, C = ma_en j ∧ 1 ≤ j ∧ j ≤ 4 ∧ 1 ≤ k ∧ k ≤ 4 ∧ k ≠ j) ∧ ma_hs own pc k r tgt)))
def ma_hf (y : MD) (pc k tgt : Nat) : Prop := ma_hs y.1.cls pc k y.2.2.2.2 tgt
section HANDLERS
variable {e : Env} {f : JFrame} {a : Addr}
theorem ma_goYes {Q : Handler → Pre} {E : CtlPost} {d : Bool} {acts : List Action} {U : State} {x : ExceptionTableEntry} {t : List ExceptionTableEntry} {cT : ClassId} {cell : Cell} (hx : covers x f.pc = true) (h0 : x.catchType ≠ 0) (hl : U.vm.ClassLinks e.platform f.method.cls x.catchType cT) (hcell : U.heap[a]? = some cell) (hobj : cell.vm.isStatics = false) (hk : ∃ k, U.vm.classes[cell.cls]? = some k) (hc : ∃ k, U.vm.classes[cT]? = some k) (hfit : U.vm.assignable cell.cls cT = true) :
    wp (findHandler.go f a (x :: t)) Q E e d acts U ↔ Q (.found x.handlerPc) d acts (U.setVm (U.vm.noted f.method.cls x.catchType (.cls cT))) := by
  have hx' := hx
  simp only [covers] at hx'
  have hgive := (resolveClass_links e.toSetting hl).op (op := VmOp.resolveClass f.method.cls x.catchType) rfl
  have hal : U.vm.Alike (U.vm.noted f.method.cls x.catchType (.cls cT)) := (Vm.Alike.refl U.vm).noted _ _ _
  obtain ⟨k1, hk1⟩ := hk
  obtain ⟨k2, hk2⟩ := hc
  obtain ⟨j1, hj1, -⟩ := hal.2.2 _ _ hk1
  obtain ⟨j2, hj2, -⟩ := hal.2.2 _ _ hk2
  have hfit2 : (U.vm.noted f.method.cls x.catchType (.cls cT)).assignable cell.cls cT = true := by rw [hal.assignable]; exact hfit
  have hobj2 := VmData.ne_statics_of hobj
  simp [findHandler.go, hx', h0, hgive.1, hgive.2, hcell, hobj2, hj1, hj2, hfit2, VmOp.dirties, VmOp.acts]
theorem ma_goNo {Q : Handler → Pre} {E : CtlPost} {d : Bool} {acts : List Action} {U : State} {x : ExceptionTableEntry} {t : List ExceptionTableEntry} {cT : ClassId} {cell : Cell} (hx : covers x f.pc = true) (h0 : x.catchType ≠ 0) (hl : U.vm.ClassLinks e.platform f.method.cls x.catchType cT) (hcell : U.heap[a]? = some cell) (hobj : cell.vm.isStatics = false) (hk : ∃ k, U.vm.classes[cell.cls]? = some k) (hc : ∃ k, U.vm.classes[cT]? = some k) (hfit : U.vm.assignable cell.cls cT = false) :
    wp (findHandler.go f a (x :: t)) Q E e d acts U ↔ wp (findHandler.go f a t) Q E e d acts (U.setVm (U.vm.noted f.method.cls x.catchType (.cls cT))) := by
  have hx' := hx
  simp only [covers] at hx'
  have hgive := (resolveClass_links e.toSetting hl).op (op := VmOp.resolveClass f.method.cls x.catchType) rfl
  have hal : U.vm.Alike (U.vm.noted f.method.cls x.catchType (.cls cT)) := (Vm.Alike.refl U.vm).noted _ _ _
  obtain ⟨k1, hk1⟩ := hk
  obtain ⟨k2, hk2⟩ := hc
  obtain ⟨j1, hj1, -⟩ := hal.2.2 _ _ hk1
  obtain ⟨j2, hj2, -⟩ := hal.2.2 _ _ hk2
  have hfit2 : (U.vm.noted f.method.cls x.catchType (.cls cT)).assignable cell.cls cT = false := by rw [hal.assignable]; exact hfit
  have hobj2 := VmData.ne_statics_of hobj
  rw [findHandler.go]
  simp [hx', h0, hgive.1, hgive.2, hcell, hobj2, hj1, hj2, hfit2, VmOp.dirties, VmOp.acts]
theorem ma_find {s : State} {args : Array Value} {own : String} {k : Nat} {cell : Cell} {cX : ClassId} (hpl : e.platform.magicAccessors = ({} : Platform).magicAccessors) (hown : s.vm.findClass own = some f.method.cls) (hts : ∀ w ∈ maT, w.before args s = true) (hNc : ∀ j k, 1 ≤ j → j ≤ 4 → 1 ≤ k → k ≤ 4 → j ≠ k → va_Nc (ma_en j) (ma_en k) s) (hX : s.vm.findClass (ma_en k) = some cX) (hcX : ClassAt s (ma_en k) cX) (hcl : cell.cls = cX) (hobj : cell.vm.isStatics = false) :
    ∀ (hs : List (Nat × Nat × Nat × Nat)) (tgt : Nat) (U : State), s.WarmedH U.vm → U.heap[a]? = some cell → ma_hs own f.pc k hs tgt → ∃ vm', s.WarmedH vm' ∧ ∀ (Q : Handler → Pre) (E : CtlPost) (d : Bool) (acts : List Action), wp (findHandler.go f a (tableOf hs)) Q E e d acts U ↔ Q (.found tgt) d acts (U.setVm vm')
  | [], _, _, _, _, h => h.elim
  | q :: r, tgt, U, hW, hcell, h => by
    rcases h with ⟨hno, h⟩ | ⟨hyes, h0, C, hlk, h⟩
    · obtain ⟨vm', h1, h2⟩ := ma_find hpl hown hts hNc hX hcX hcl hobj r tgt U hW hcell h
      refine ⟨vm', h1, fun Q E d acts => ?_⟩
      rw [show tableOf (q :: r) = ⟨q.1, q.2.1, q.2.2.1, q.2.2.2⟩ :: tableOf r from rfl, W.findHandler_go_skip hno]
      exact h2 Q E d acts
    · obtain ⟨cT, hcT, hlnk⟩ := Cond.classLink_spec hown (hts _ hlk) e.platform hpl
      obtain ⟨dk, _, _, kt, hd, _, _, _, _, hkt, _, hopen⟩ := hlnk.here
      have hl0 := hW.classLinks hlnk
      have hW' : s.WarmedH (U.vm.noted f.method.cls q.2.2.2 (.cls cT)) := hW.noted hd hopen (State.rightAt_cls hlnk)
      obtain ⟨kt', hkt', -⟩ := hW.alike.2.2 _ _ hkt
      obtain ⟨-, kX, hkX, hkXk⟩ := hcX
      obtain ⟨kX', hkX', -⟩ := hW.alike.2.2 _ _ hkX
      rcases h with ⟨rfl, rfl⟩ | ⟨hnc, h⟩
      · have hcc : cT = cX := Option.some.inj (hcT.symm.trans hX)
        subst hcc
        refine ⟨_, hW', fun Q E d acts => ?_⟩
        rw [show tableOf (q :: r) = ⟨q.1, q.2.1, q.2.2.1, q.2.2.2⟩ :: tableOf r from rfl]
        exact ma_goYes hyes h0 hl0 hcell hobj (by rw [hcl]; exact ⟨kX', hkX'⟩) ⟨kt', hkt'⟩ (by rw [hcl, hW.alike.assignable]; exact va_assign ⟨hX, kX, hkX, hkXk⟩)
      · obtain ⟨jj, rfl, j1, j2, j3, j4, j5⟩ := hnc
        obtain ⟨c1, t1, e1, e2, e3⟩ := hNc k jj j3 j4 j1 j2 j5
        cases hX.symm.trans e1
        cases hcT.symm.trans e2
        obtain ⟨vm', h1, h2⟩ := ma_find hpl hown hts hNc hX ⟨hX, kX, hkX, hkXk⟩ hcl hobj r tgt (U.setVm (U.vm.noted f.method.cls q.2.2.2 (.cls cT))) hW' hcell h
        refine ⟨vm', h1, fun Q E d acts => ?_⟩
        rw [show tableOf (q :: r) = ⟨q.1, q.2.1, q.2.2.1, q.2.2.2⟩ :: tableOf r from rfl, ma_goNo hyes h0 hl0 hcell hobj (by rw [hcl]; exact ⟨kX', hkX'⟩) ⟨kt', hkt'⟩ (by rw [hcl, hW.alike.assignable]; exact e3)]
        exact h2 Q E d acts
end HANDLERS
/-- the thrown object is caught: the frame goes on at the handler -/
theorem ma_caught {tb : Tables} {e : Env} {U target : State} {m : MethodId} {pc tgt : Nat} {L : Array Slot} {S' : List Value} {c : Code} {below : List Frame} {x : Addr} {meth : Method} {vm' : Vm} {hs : List (Nat × Nat × Nat × Nat)} (hA : At U m c below) (hm : U.vm.method? m = some meth) (hc : meth.code = some c) (hex : c.exceptionTable.toList = tableOf hs)
    (hfind : ∀ (Q : Handler → Pre) (E : CtlPost) (d : Bool) (acts : List Action), wp (findHandler.go (F0 m pc L S') x (tableOf hs)) Q E e d acts ((U.setTop (F0 m pc L S')).pushFrame (.throwing x)) ↔ Q (.found tgt) d acts (((U.setTop (F0 m pc L S')).pushFrame (.throwing x)).setVm vm'))
    (hrest : Steps tb e below ((U.setVm vm').setTop (F0 m tgt L [.ref x])) target) : Steps tb e below ((U.setTop (F0 m pc L S')).pushFrame (.throwing x)) target := by
  obtain ⟨hgo, hw⟩ := At.throwing (g := F0 m pc L S') hA x
  refine Steps.head hgo hw ?_
  obtain ⟨g₀, hg⟩ := Option.isSome_iff_exists.mp hA.top
  obtain ⟨r, hr⟩ := State.topJava?_eq_some.mp hg
  have hm' : ((U.setTop (F0 m pc L S')).pushFrame (.throwing x)).vm.method? (F0 m pc L S').method = some meth := by simpa [State.pushFrame, State.setFrames, State.setTop, State.modifyTopJava] using hm
  have hstep : (stepThrowing e ((U.setTop (F0 m pc L S')).pushFrame (.throwing x)) x (.java (F0 m pc L S') :: r)).Is ((((U.setTop (F0 m pc L S')).pushFrame (.throwing x)).setVm vm').setFrames (.java { F0 m pc L S' with pc := tgt, stack := [.ref x] } :: r)) [] := by
    simp only [stepThrowing, searchFrame, vmDo]
    generalize hres : Sem.go _ e false [] _ = res
    obtain ⟨as, rfl, ha⟩ := Sem.eq_ok_of hres (a := Handler.found tgt) (s' := ((U.setTop (F0 m pc L S')).pushFrame (.throwing x)).setVm vm') (acts' := []) (by
      have hf : ∀ (Q : Handler → Pre) (E : CtlPost) (d : Bool) (acts : List Action), wp (findHandler (F0 m pc L S') x) Q E e d acts ((U.setTop (F0 m pc L S')).pushFrame (.throwing x)) ↔ Q (.found tgt) d acts (((U.setTop (F0 m pc L S')).pushFrame (.throwing x)).setVm vm') := by
        intro Q E d acts
        rw [W.findHandler_eq hm' hc, hex]
        exact hfind Q E d acts
      simp [hf])
    exact ⟨rfl, ha⟩
  rw [stepThread_throwing (frames_entered hA.top _), hr]
  rw [List.tail_cons, hstep.1]
  have hr' : (U.setVm vm').frames = .java g₀ :: r := hr
  rw [State.setTop_of_frames _ hr'] at hrest
  have e5 : ∀ (F G : List Frame), ((U.setFrames F).setVm vm').setFrames G = (U.setVm vm').setFrames G := fun F G => by
    have e6 : (U.setFrames F).setVm vm' = (U.setVm vm').setFrames F := rfl
    rw [e6, State.setFrames_setFrames]
  rw [State.pushFrame, State.setTop_of_frames _ hr, State.setFrames_setFrames, e5]
  exact hrest
theorem ma_at_ns {D : va_G} {q : Nat × va_E} {H : Heap} (h : va_at D maCl q H) : ∀ cell : Cell, H[q.1]? = some cell → cell.vm.isStatics = false := by
  obtain ⟨a, e⟩ := q
  intro cell hc
  rcases e with x | o
  · have h1 : H[a]? = some (vp_cell x.1 x.2) := h
    rw [h1] at hc
    cases hc
    obtain ⟨cA, n, b⟩ := x
    rcases b with b | b | b | b | b <;> rfl
  · obtain ⟨r, h1, cell', g1, g2, g3, -⟩ := h
    have g1' : H[a]? = some cell' := g1
    rw [g1'] at hc
    cases hc
    rw [g3]; rfl
theorem ma_HR_weak {D : va_G} {aC : Nat → ClassId} {A A' : Nat → Prop} {ad : Nat → Nat → Nat} {h : AH} {H : Heap} (hA : ∀ q, A q → A' q) (hH : ma_HR D aC A ad h H) : ma_HR D aC A' ad h H := by
  obtain ⟨Ls, hm, hnd, hP, hD, h90, hcl⟩ := hH
  exact ⟨Ls, hm, hnd, hP, ⟨hD.1, fun k q hk => hA _ (hD.2 k q hk)⟩, h90, hcl⟩
def ma_A2 (A : Nat → Prop) (H : Heap) : Nat → Prop := fun q => A q ∧ ∀ cell : Cell, H[q]? = some cell → cell.vm.isStatics = false
theorem ma_HR_ns {D : va_G} {aC : Nat → ClassId} {A : Nat → Prop} {ad : Nat → Nat → Nat} {h : AH} {H : Heap} (hH : ma_HR D aC A ad h H) : ma_HR D aC (ma_A2 A H) ad h H := by
  obtain ⟨Ls, hm, hnd, hP, hD, h90, hcl⟩ := hH
  exact ⟨Ls, hm, hnd, hP, ⟨hD.1, fun k q hk => ⟨hD.2 k q hk, ma_at_ns (hP k q hk)⟩⟩, h90, hcl⟩
theorem ma_HR_ad {D : va_G} {aC : Nat → ClassId} {A : Nat → Prop} {ad ad' : Nat → Nat → Nat} {h : AH} {H : Heap} (he : ∀ k i, i < ma_n h k → ad' k i = ad k i) (hH : ma_HR D aC A ad h H) : ma_HR D aC A ad' h H := by
  obtain ⟨Ls, hm, hnd, hP, hD, h90, hcl⟩ := hH
  have hw : ma_ws aC ad' h Ls = ma_ws aC ad h Ls := by
    unfold ma_ws
    refine List.map_congr_left (fun x hx => ?_)
    have hx2 := (hm x).mp hx
    have a1 : ∀ j, ma_rf ad' (h.2.1 x.1 x.2 j) = ma_rf ad (h.2.1 x.1 x.2 j) := by
      intro j
      cases hr : h.2.1 x.1 x.2 j with
      | none => rfl
      | some r => simp only [ma_rf]; rw [he _ _ (hcl.1 _ _ _ _ hx2 hr)]
    have a2 : (fun j => (h.2.1 x.1 x.2 j).map (fun z => ad' z.1 z.2)) = (fun j => (h.2.1 x.1 x.2 j).map (fun z => ad z.1 z.2)) := by
      funext j
      cases hr : h.2.1 x.1 x.2 j with
      | none => rfl
      | some r => simp only [Option.map_some]; rw [he _ _ (hcl.1 _ _ _ _ hx2 hr)]
    rw [he _ _ hx2]
    simp only [ma_E, ma_fs, ma_ar, a1, a2]
  exact ⟨Ls, hm, hnd, by rw [hw]; exact hP, by rw [hw]; exact hD, h90, hcl⟩
section CORE
variable {sc : Nat × (Nat → Int32)} {cl cl' rd rd2 : Bool} {d2 bc2 bs2 bc bs : Nat} {y y2 : MD} {h : AH} {vs ls st : List AV} {Q2 Q : GO → AH → Prop} {p : Program} {l : Launch} {e : Env} {R : Room} {s T1 : State} {m mk : MethodId} {args : Array Value} {below : List Frame} {meth : Method} {c : Code} {H : Heap} {locs : List Loc} {cells slots mc ms : Nat} {D : va_G} {aC : Nat → ClassId} {A : Nat → Prop} {ad ad0 : Nat → Nat → Nat} {n0 : Nat → Nat} {L : Array Slot} {S' As : List Value} {pc : Nat} {ig : Instr}
set_option maxHeartbeats 1000000 in
theorem ma_core (hC : ma_Cx y p l s m args meth c D aC) (hHR : ma_HR D aC A ad h H) (hSX : ma_SX sc A ad s) (hS : va_S A s.heap H locs) (hA : ∀ q, s.heap.size ≤ q → A q) (hL : ma_LR ad (ma_n h) y.2.2.1 ls L)
    (X₁ : Stand p l e R s m args below meth c T1 locs cells slots) (hT1 : T1.heap = H) (hn : s.methodNamed? y2.1 = some mk) (hcw : ma_CW y2) (hpl : plainFor y2.1 = true)
    (hN : vs.length ≤ y2.2.2.1) (h40 : y2.2.2.1 ≤ 40) (hnl : ∀ v ∈ vs, ma_nl v) (hAs : ma_SR ad (ma_n h) vs As) (hrest : (S'.map fun v => v.category).sum ≤ 8) (hd : decode y.2.1 pc = .ok (ig, 3))
    (r1 : d2 + 1 ≤ R.frames) (r2 : 64 * (d2 + 1) ≤ R.locals) (r3 : cells + bc2 ≤ R.cells) (r4 : slots + bs2 ≤ R.slots)
    (G2 : Go sc true rd2 d2 bc2 bs2 y2 0 (vs ++ List.replicate (y2.2.2.1 - vs.length) vU) [] h Q2) :
    ∃ t : State, (∀ acts, Steps p.tables e below (doInvoke e (T1.setTop (F0 m pc L S')) acts mk As.toArray).1 t) ∧ ma_Z (.java (F0 m pc L S') :: below) D aC (ma_A2 A H) ad (ma_n h) rd2 Q2 (T1.calling (F0 m pc L S') mk As.toArray) bc2 bs2 t := by
  obtain ⟨hx, hb, hml, hr, hown, hts, hlocks, hnm, hex, hK, hKa, hNc, hfl, hmH⟩ := id hC
  obtain ⟨mk', methk, ck, hn', hmk, hck, q1, q2, q3, q4, q5, q6⟩ := ma_CW_spec hts hcw
  cases hn.symm.trans hn'
  have hW := X₁.warmed
  have hmk1 : T1.vm.method? mk = some methk := by rw [hW.alike.method?]; exact hmk
  have hn1 : T1.methodNamed? y2.1 = some mk := X₁.named hn
  have hpm : T1.plainMethod mk := State.plainMethod.of_named hpl hn1 hmk1
  have hroom := lv_room (m := m) (pc := pc) (ls := L) (rest := S') (st := S') hrest
  obtain ⟨X2, hent⟩ := X₁.into (g := F0 m pc L S') rfl (hL.1.trans hml.symm) (ig := ig) (len := 3) (by rw [hb]; exact hd) (a := As.toArray) (R' := { frames := d2, cells := bc2, slots := bs2, locals := 64 * d2 }) hmk1 hck q4 hpm r1 (by
    show 2 * (F0 m pc L S').monitorRoom + (S'.map fun v => v.category).sum + (ck.maxLocals + 11) + 64 * d2 ≤ R.locals
    rw [q2]; omega) r3 r4
  have hC2 : ma_Cx y2 p l (T1.calling (F0 m pc L S') mk As.toArray) mk As.toArray methk ck D aC :=
    ⟨hx, q1, q2, q3, findClass_of_methodNamed hn1, fun w hw => ma_keep (s := s) (U := T1.calling (F0 m pc L S') mk As.toArray) hW (ma_good w hw) (hts w hw), q4, (name_of_methodNamed hn1 hmk1).1, q5, va_K.moved hW.alike hK, fun k ty hk => ⟨arrOfT_moved hW.alike (hKa k ty hk).1, (hKa k ty hk).2.moved hW.alike⟩, fun j k h1 h2 h3 h4 h5 => va_Nc.moved hW.alike (hNc j k h1 h2 h3 h4 h5), hfl, ma_keepH (s := s) (U := T1.calling (F0 m pc L S') mk As.toArray) hW (fun q cell hc hs9 => by
      have hnA : ¬ A q := fun h9 => by rw [hSX.2.2.2 q cell h9 hc] at hs9; cases hs9
      show T1.heap[q]? = some cell
      rw [hT1, hS.2.1 q (Array.getElem?_eq_some_iff.mp hc).1 hnA]
      exact hc) hmH⟩
  have hh2 : (T1.calling (F0 m pc L S') mk As.toArray).heap = H := hT1
  have hDy2 : ma_Dy sc true d2 bc2 bs2 y2 (vs ++ List.replicate (y2.2.2.1 - vs.length) vU) [] h { frames := d2, cells := bc2, slots := bs2, locals := 64 * d2 } (T1.calling (F0 m pc L S') mk As.toArray) H [] 0 0 bc2 bs2 D aC (ma_A2 A H) ad ad (ma_n h) ((lg_sl As ++ List.replicate (y2.2.2.1 - (lg_sl As).length) Slot.unset).toArray) [] := by
    refine ⟨⟨Nat.le_refl _, Nat.le_refl _, by omega, by omega, Nat.le_refl _, Nat.le_refl _⟩, ma_HR_ns hHR, ⟨?_, fun q => hSX.2.1 q.1, ?_, fun q cell hq hc => hq.2 cell (by rw [hh2] at hc; exact hc)⟩, by rw [hh2]; exact va_S.rf, fun q hq => ⟨hA q (by rw [hh2] at hq; exact Nat.le_trans hS.1 hq), fun cell hc => by
      rw [hh2] at hq
      have := (Array.getElem?_eq_some_iff.mp hc).1
      omega⟩, ma_Ex_rf, ma_LR_entry hAs hnl hN, rfl, fun _ => ⟨rfl, by rw [hh2]; exact ma_HR_ns hHR⟩⟩
    · rw [hh2]
      exact va_X.moved hW.alike (hSX.1.kept (hS.2.1 _ hSX.2.2.1 hSX.2.1))
    · rw [hh2]
      exact Nat.lt_of_lt_of_le hSX.2.2.1 hS.1
  obtain ⟨t, st, hz⟩ := G2 p l e _ _ mk As.toArray (.java (F0 m pc L S') :: below) methk ck H [] 0 0 bc2 bs2 D aC (ma_A2 A H) ad ad (ma_n h) _ [] hC2 hDy2 _ (show ((T1.setTop (F0 m pc L S')).pushFrame (.java (entryFrame mk As.toArray ck.maxLocals))).heap = H from hT1) X2
  refine ⟨t, fun acts => ?_, hz⟩
  rw [hent acts]
  have e9 : entryFrame mk As.toArray ck.maxLocals = F0 mk 0 ((lg_sl As ++ List.replicate (y2.2.2.1 - (lg_sl As).length) Slot.unset).toArray) [] := by rw [q2]; exact lg_entry_eq mk As y2.2.2.1
  rw [← e9] at st
  exact ma_weaken st
/-- the invoking instruction's own step -/
def ma_Inv (p : Program) (l : Launch) (e : Env) (R : Room) (s : State) (m : MethodId) (args : Array Value) (below : List Frame) (meth : Method) (c : Code) (H : Heap) (y2 : MD) (g : JFrame) (rest As : List Value) : Prop :=
  ∀ (T : State) (locs : List Loc) (cells slots : Nat), T.heap = H → Stand p l e R s m args below meth c T locs cells slots → ∃ (vm₁ : Vm) (mk : MethodId), Stand p l e R s m args below meth c (T.setVm vm₁) locs cells slots ∧ s.methodNamed? y2.1 = some mk ∧ ∀ target, (∀ acts, Steps p.tables e below (doInvoke e ((T.setVm vm₁).setTop { g with stack := rest }) acts mk As.toArray).1 target) → Steps p.tables e below (T.setTop g) target
/-- where a thrown object goes: out of the method, or to a handler -/
def ma_thr (sc : Nat × (Nat → Int32)) (cl rd : Bool) (d bc bs : Nat) (y : MD) (pc : Nat) (ls : List AV) (h1 : AH) (Q : GO → AH → Prop) (k : Nat) : Prop :=
  ((tableOf y.2.2.2.2).all (fun x => !covers x pc) = true ∧ (rd = true → cl = true) ∧ Q (.inr k) h1) ∨ ∃ tgt, ma_hf y pc k tgt ∧ Go sc cl rd d bc bs y tgt ls [vO 97 0] h1 Q

set_option maxHeartbeats 1000000 in
theorem ma_call {Sf : List Value} {d2 : Nat} (hC : ma_Cx y p l s m args meth c D aC) (hDy : ma_Dy sc cl (d2 + 1) (bc + bc2) (bs + bs2) y ls st h R s H locs cells slots mc ms D aC A ad ad0 n0 L S') (hinv : ma_Inv p l e R s m args below meth c H y2 (F0 m pc L Sf) S' As) (hcw : ma_CW y2) (hpl : plainFor y2.1 = true)
    (hN : vs.length ≤ y2.2.2.1) (h40 : y2.2.2.1 ≤ 40) (hnl : ∀ v ∈ vs, ma_nl v) (hAs : ma_SR ad (ma_n h) vs As) (hrest : (S'.map fun v => v.category).sum ≤ 8) (hd : decode y.2.1 pc = .ok (ig, 3)) (hcl' : cl' = true → cl = true ∧ rd2 = true ∧ ∀ g h1, Q2 g h1 → h1 = h)
    (G2 : Go sc true rd2 d2 bc2 bs2 y2 0 (vs ++ List.replicate (y2.2.2.1 - vs.length) vU) [] h Q2)
    (kr : ∀ h1, Q2 (.inl none) h1 → Go sc cl' rd (d2 + 1) bc bs y (pc + 3) ls st h1 Q) (kv : ∀ v h1, Q2 (.inl (some v)) h1 → Go sc cl' rd (d2 + 1) bc bs y (pc + 3) ls (v :: st) h1 Q) (kt : ∀ k h1, Q2 (.inr k) h1 → ma_thr sc cl' rd (d2 + 1) bc bs y pc ls h1 Q k) :
    W p l e R s m args below meth c H locs cells slots (ma_Z below D aC A ad0 n0 rd Q s mc ms) (F0 m pc L Sf) := by
  intro T hT X
  obtain ⟨hx, hb, hml, hr, hown, hts, hlocks, hnm, hex, hK, hKa, hNc, hfl, hmH⟩ := id hC
  obtain ⟨⟨r1, r2, r3, r4, r5, r6⟩, hHR, hSX, hS, hA, hEx, hL, hSt, hCl⟩ := id hDy
  obtain ⟨vm₁, mk, X₁, hn, hstep⟩ := hinv T locs cells slots hT X
  obtain ⟨t, hsteps, o, z1, z2, z3, ⟨L9, z4, z4', z4r⟩, z5, g, h1, ad1, c1, c2, c3, c4⟩ := ma_core (pc := pc) (L := L) (S' := S') hC hHR hSX hS hA hL X₁ hT hn hcw hpl hN h40 hnl hAs hrest hd r1 r2 (by omega) (by omega) G2
  replace c3 := ma_HR_weak (fun q (hq : ma_A2 A H q) => hq.1) c3
  have hSXa : ma_SX sc A ad1 s := by unfold ma_SX; rw [c4.2]; exact hSX
  have hz5 : H.size ≤ t.heap.size ∧ ∀ q : Nat, q < H.size → ¬ A q → t.heap[q]? = H[q]? := by
    have z5 : va_F (ma_A2 A H) _ t := z5
    have e9 : ((T.setVm vm₁).calling (F0 m pc L S') mk As.toArray).heap = H := hT
    unfold va_F at z5
    rw [e9] at z5
    exact ⟨z5.1, fun q h9 h8 => z5.2 q h9 (fun h7 => h8 h7.1)⟩
  have hS1 : va_S A s.heap t.heap (locs ++ L9) := ⟨Nat.le_trans hS.1 hz5.1, fun q h9 h8 => (hz5.2 q (Nat.lt_of_lt_of_le h9 hS.1) h8).trans (hS.2.1 q h9 h8), fun q hq => by
    rcases List.mem_append.mp hq with h9 | h9
    · exact hS.2.2 q h9
    · exact (z4' q h9).1⟩
  have hCl1 : cl' = true → locs ++ L9 = [] ∧ ma_HR D aC A ad1 h1 s.heap := by
    intro h9
    obtain ⟨e1, e2, e3⟩ := hcl' h9
    have e4 := e3 g h1 c1
    subst e4
    obtain ⟨f1, f2⟩ := hCl e1
    exact ⟨by rw [f1, z4r e2]; rfl, ma_HR_ad (fun k i hi => (c4.1 k i hi).1) f2⟩
  cases o with
  | returned v =>
    obtain ⟨T', X', hw', hsame', ht⟩ := X₁.outOf (g := F0 m pc L S') rfl (ig := ig) (len := 3) (by rw [hb]; exact hd) (mk := mk) (a := As.toArray) z2 z3 z4
    have hth : T'.heap = t.heap := by rw [ht]; rfl
    have fin : ∀ (st' : List AV) (Sx : List Value), v.toList ++ S' = Sx → ma_SR ad1 (ma_n h1) st' Sx → Go sc cl' rd (d2 + 1) bc bs y (pc + 3) ls st' h1 Q → ∃ t, Steps p.tables e below (T.setTop (F0 m pc L Sf)) t ∧ ma_Z below D aC A ad0 n0 rd Q s mc ms t := by
      intro st' Sx hSx hst' G
      obtain ⟨t2, a1, b1⟩ := G p l e R s m args below meth c t.heap (locs ++ L9) (cells + bc2) (slots + bs2) mc ms D aC A ad1 ad0 n0 L Sx hC ⟨⟨r1, r2, by omega, by omega, r5, r6⟩, c3, hSXa, hS1, hA, ma_Ex_tr hEx c4, ma_LR_ext c4 hL, hst', hCl1⟩ T' hth X'
      refine ⟨t2, hstep _ (fun acts => (hsteps acts).trans ?_), b1⟩
      rw [ht]
      subst hSx
      exact a1
    rcases g with (_ | v') | k
    · cases c2
      exact fin st S' rfl (ma_SR_ext c4 hSt) (kr h1 c1)
    · obtain ⟨x, c2, c5⟩ := c2
      cases c2
      exact fin (v' :: st) (x :: S') rfl ⟨_, _, rfl, c5, ma_SR_ext c4 hSt⟩ (kv v' h1 c1)
    · obtain ⟨x, c2, -⟩ := c2
      cases c2
  | threw x =>
    rcases g with (_ | v') | k
    · cases c2
    · obtain ⟨x, c2, -⟩ := c2
      cases c2
    · obtain ⟨x', c2, c5⟩ := c2
      cases c2
      obtain ⟨T', X', hw', hsame', ht⟩ := X₁.outOfThrown (g := F0 m pc L S') rfl (mk := mk) (a := As.toArray) z2 z3 z4
      have hth : T'.heap = t.heap := by rw [ht]; simp [State.pushFrame, State.setFrames, State.setTop, State.modifyTopJava]
      have htv : T'.vm = t.vm := by rw [ht]; simp [State.pushFrame, State.setFrames, State.setTop, State.modifyTopJava]
      rcases kt k h1 c1 with ⟨hout, hrd, hq⟩ | ⟨tgt, hhf, G⟩
      · have hout' : ∀ z ∈ c.exceptionTable.toList, covers z (F0 m pc L S').pc = false := by
          intro z hz
          rw [hex] at hz
          have h9 : (!covers z pc) = true := List.all_eq_true.mp hout z hz
          show covers z pc = false
          cases hcv : covers z pc with
          | true => rw [hcv] at h9; cases h9
          | false => rfl
        obtain ⟨l1, l2, l3, l4, l5⟩ := X'.leaveThrown x (g := F0 m pc L S') rfl rfl rfl hout' hlocks
        refine ⟨T'.setFrames (.throwing x :: below), hstep _ (fun acts => (hsteps acts).trans (by rw [ht]; exact l1)), .threw x, l2, l3, l4, ⟨locs ++ L9, l5.mono (by omega) (by omega), hS1.2.2, fun h9 => (hCl1 (hrd h9)).1⟩, ⟨by show s.heap.size ≤ T'.heap.size; rw [hth]; exact hS1.1, fun q h9 h8 => by show T'.heap[q]? = _; rw [hth]; exact hS1.2.1 q h9 h8⟩, .inr k, h1, ad1, hq, ⟨x, rfl, ?_⟩, by show ma_HR D aC A ad1 h1 T'.heap; rw [hth]; exact c3, ma_Ex_tr hEx c4⟩
        obtain ⟨cell, e1, e2, e3⟩ := c5
        exact ⟨cell, by show T'.heap[x]? = _; rw [hth]; exact e1, e2, by show T'.vm.findClass _ = _; rw [htv]; exact e3⟩
      · obtain ⟨cell, e1, e2, e3⟩ := c5
        have hXs : s.vm.findClass (ma_en k) = some cell.cls := by
          have := X'.warmed.alike.findClass (ma_en k)
          rw [htv] at this
          rw [← this]; exact e3
        obtain ⟨kX, hkX, hkXk⟩ := ma_exc (args := args) hts hXs
        have hmX : (((T'.setTop (F0 m pc L S')).pushFrame (.throwing x))).vm = T'.vm := by simp [State.pushFrame, State.setFrames, State.setTop, State.modifyTopJava]
        have hhX : (((T'.setTop (F0 m pc L S')).pushFrame (.throwing x))).heap = T'.heap := by simp [State.pushFrame, State.setFrames, State.setTop, State.modifyTopJava]
        obtain ⟨vm', hW', hfind⟩ := ma_find (e := e) (f := F0 m pc L S') (a := x) (s := s) (args := args) (k := k) (cell := cell) (by rw [X.admits.platform]) hown hts hNc hXs ⟨hXs, kX, hkX, hkXk⟩ rfl e2 y.2.2.2.2 tgt ((T'.setTop (F0 m pc L S')).pushFrame (.throwing x)) (by rw [hmX]; exact X'.warmed) (by rw [hhX, hth]; exact e1) hhf
        have X9 := X'.noted hW'
        obtain ⟨t2, a1, b1⟩ := G p l e R s m args below meth c t.heap (locs ++ L9) (cells + bc2) (slots + bs2) mc ms D aC A ad1 ad0 n0 L [.ref x] hC ⟨⟨r1, r2, by omega, by omega, r5, r6⟩, c3, hSXa, hS1, hA, ma_Ex_tr hEx c4, ma_LR_ext c4 hL, ⟨_, _, rfl, Or.inl ⟨rfl, x, rfl⟩, rfl⟩, hCl1⟩ (T'.setVm vm') hth X9
        refine ⟨t2, hstep _ (fun acts => (hsteps acts).trans ?_), b1⟩
        rw [ht]
        exact ma_caught X'.here (X'.method') X'.code hex hfind a1
end CORE
end
section
/-! THE THREE CALLS -/
def ma_VW (own : String) (idx : Nat) (y2 : MD) (k n : Nat) : Prop := Cond.methodLink own idx y2.1 ∈ maT ∧ Cond.instanceMethod y2.1 ∈ maT ∧ (∃ q, maCl[k]? = some q ∧ Cond.selects q.1 y2.1 y2.1 ∈ maT) ∧ (y2.1.cls ≠ "java/lang/invoke/MethodHandle" ∧ y2.1.cls ≠ "java/lang/invoke/VarHandle") ∧ (parseMethodDescriptor y2.1.desc).map (fun d => d.parameters.length) = some n ∧ ma_CW y2 ∧ plainFor y2.1 = true ∧ y2.2.2.1 ≤ 40
def ma_SW (own : String) (idx : Nat) (y2 : MD) (n : Nat) : Prop := Cond.methodLink own idx y2.1 ∈ maT ∧ Cond.static y2.1 ∈ maT ∧ Cond.initialized y2.1.cls ∈ maT ∧ (y2.1.cls ≠ "java/lang/invoke/MethodHandle" ∧ y2.1.cls ≠ "java/lang/invoke/VarHandle") ∧ (parseMethodDescriptor y2.1.desc).map (fun d => d.parameters.length) = some n ∧ ma_CW y2 ∧ plainFor y2.1 = true ∧ y2.2.2.1 ≤ 40
def ma_IW (own : String) (idx : Nat) (y2 : MD) (n : Nat) : Prop := Cond.methodLink own idx y2.1 ∈ maT ∧ Cond.instanceMethod y2.1 ∈ maT ∧ y2.1.name = "<init>" ∧ (y2.1.cls ≠ "java/lang/invoke/MethodHandle" ∧ y2.1.cls ≠ "java/lang/invoke/VarHandle") ∧ (parseMethodDescriptor y2.1.desc).map (fun d => d.parameters.length) = some n ∧ Cond.code y2.1 y2.2.1 y2.2.2.1 none ∈ maT ∧ ma_CW y2 ∧ plainFor y2.1 = true ∧ y2.2.2.1 ≤ 40
theorem ma_par {y2 : MD} {n : Nat} {sig : MethodDescriptor} (h : (parseMethodDescriptor y2.1.desc).map (fun d => d.parameters.length) = some n) (hs : parseMethodDescriptor y2.1.desc = some sig) : n = sig.parameters.length := by
  rw [hs] at h
  exact (Option.some.inj h).symm
theorem ma_SR_app {ad : Nat → Nat → Nat} {n : Nat → Nat} : ∀ {a b : List AV} {S : List Value}, ma_SR ad n (a ++ b) S → ∃ S1 S2, S = S1 ++ S2 ∧ ma_SR ad n a S1 ∧ ma_SR ad n b S2
  | [], _, S, h => ⟨[], S, rfl, rfl, h⟩
  | _ :: _, _, _, ⟨x, S', e, h1, h2⟩ => by
    obtain ⟨S1, S2, e2, h3, h4⟩ := ma_SR_app h2
    subst e; subst e2
    exact ⟨x :: S1, S2, rfl, ⟨x, S1, rfl, h1, h3⟩, h4⟩
theorem ma_SR_cat {ad : Nat → Nat → Nat} {n : Nat → Nat} : ∀ {a b : List AV} {S1 S2 : List Value}, ma_SR ad n a S1 → ma_SR ad n b S2 → ma_SR ad n (a ++ b) (S1 ++ S2)
  | [], _, _, _, h1, h2 => by cases h1; exact h2
  | _ :: _, _, _, _, ⟨x, S', e, h1, h3⟩, h2 => by subst e; exact ⟨x, _, rfl, h1, ma_SR_cat h3 h2⟩
theorem ma_SR_rev {ad : Nat → Nat → Nat} {n : Nat → Nat} : ∀ {a : List AV} {S : List Value}, ma_SR ad n a S → ma_SR ad n a.reverse S.reverse
  | [], _, h => by cases h; rfl
  | _ :: _, _, ⟨x, S', e, h1, h2⟩ => by
    subst e
    rw [List.reverse_cons, List.reverse_cons]
    exact ma_SR_cat (ma_SR_rev h2) ⟨x, [], rfl, h1, rfl⟩
theorem ma_SR_sum {ad : Nat → Nat → Nat} {n : Nat → Nat} : ∀ {a : List AV} {S : List Value}, ma_SR ad n a S → (S.map fun v => v.category).sum ≤ 2 * a.length
  | [], _, h => by cases h; simp
  | _ :: _, _, ⟨x, S', e, h1, h2⟩ => by
    subst e
    have := ma_SR_sum h2
    have hc : x.category ≤ 2 := by rcases lv_cat x with h | h <;> omega
    simp only [List.map_cons, List.sum_cons, List.length_cons]
    omega
section INV
variable {sc : Nat × (Nat → Int32)} {y y2 : MD} {h : AH} {p : Program} {l : Launch} {e : Env} {R : Room} {s : State} {m : MethodId} {args : Array Value} {below : List Frame} {meth : Method} {c : Code} {H : Heap} {D : va_G} {aC : Nat → ClassId} {A : Nat → Prop} {ad : Nat → Nat → Nat} {L : Array Slot} {S' As : List Value} {pc idx k i n : Nat}
theorem ma_invV (hC : ma_Cx y p l s m args meth c D aC) (hHR : ma_HR D aC A ad h H) (hk : k < 90) (hi : i < ma_n h k) (hvw : ma_VW y.1.cls idx y2 k n) (hn : As.length = n) (hd : decode y.2.1 pc = .ok (.invokevirtual idx, 3)) :
    ma_Inv p l e R s m args below meth c H y2 (F0 m pc L (As.reverse ++ .ref (ad k i) :: S')) S' (.ref (ad k i) :: As) := by
  intro T locs cells slots hT X
  obtain ⟨hx, hb, hml, hr, hown, hts, hlocks, hnm, hex, hK, hKa, hNc, hfl, hmH⟩ := id hC
  obtain ⟨hlk, hinst, ⟨q, hq, hsel⟩, hy, hpar, hcw, -, -⟩ := hvw
  obtain ⟨Ls, hm, hnd, hP, hD, h90, hcl⟩ := id hHR
  obtain ⟨q0, hq0⟩ := ma_pos hm hi
  have he := ma_ws_at (aC := aC) (ad := ad) (h := h) hq0
  rw [ma_E_obj hk] at he
  obtain ⟨cellB, hcB, hoB, hclB⟩ := va_recv hK hP hq he
  obtain ⟨mk, methM, hnamed, hmethM, hstM, habM⟩ := Cond.instanceMethod_spec (hts _ hinst)
  obtain ⟨mk', methM', cM, hn', hm', -, -, -, -, -, -, hsigM⟩ := ma_CW_spec hts hcw
  cases hnamed.symm.trans hn'
  cases hmethM.symm.trans hm'
  obtain ⟨c2, r2, m2, q1, q2, q3, q4, kP, hkP, hkPi⟩ := Cond.selects_spec (hts _ hsel)
  cases hclB.symm.trans q1
  cases (State.methodFound?_of_named hnamed hy).symm.trans q2
  cases hnamed.symm.trans q3
  have hselP : selectMethod e.platform s.vm cellB.cls mk = .method mk := by rw [Launch.admits_selectMethod X.admits]; exact q4
  obtain ⟨vm₁, X₁, hstep₁⟩ := X.invokevirtual hx hown (hts _ hlk) hnamed hmethM hstM hkP hkPi hy (a := ad k i) (cell := cellB) (by rw [hT]; exact hcB)
    (fun z h9 => by rw [h9] at hoB; cases hoB) hselP hmethM habM hkP hkPi (g := F0 m pc L (As.reverse ++ .ref (ad k i) :: S')) rfl (argsL := As) (rest := S') (hn.trans (ma_par hpar hsigM)) rfl (by rw [hb]; exact hd)
  exact ⟨vm₁, mk, X₁, hnamed, fun target h9 => hstep₁ _ h9⟩
theorem ma_invS (hC : ma_Cx y p l s m args meth c D aC) (hvw : ma_SW y.1.cls idx y2 n) (hn : As.length = n) (hd : decode y.2.1 pc = .ok (.invokestatic idx, 3)) :
    ma_Inv p l e R s m args below meth c H y2 (F0 m pc L (As.reverse ++ S')) S' As := by
  intro T locs cells slots hT X
  obtain ⟨hx, hb, hml, hr, hown, hts, hlocks, hnm, hex, hK, hKa, hNc, hfl, hmH⟩ := id hC
  obtain ⟨hlk, hst, hini, hy, hpar, hcw, -, -⟩ := hvw
  obtain ⟨mk, methM, cM, hnamed, hmethM, -, -, -, -, -, -, hsigM⟩ := ma_CW_spec hts hcw
  have hstatic : methM.isStatic = true := Cond.static_spec hnamed hmethM (hts _ hst)
  obtain ⟨kP, hkP, -⟩ := className_of_methodNamed hnamed
  have hinitP : kP.init = .initialized := Cond.initialized_spec (findClass_of_methodNamed hnamed) hkP (hts _ hini)
  obtain ⟨vm₁, X₁, hstep₁⟩ := X.invokestatic hx hown (hts _ hlk) hnamed hmethM hstatic hkP hinitP hy (g := F0 m pc L (As.reverse ++ S')) rfl (argsL := As) (rest := S') (hn.trans (ma_par hpar hsigM)) rfl (by rw [hb]; exact hd)
  exact ⟨vm₁, mk, X₁, hnamed, fun target h9 => hstep₁ _ h9⟩
theorem ma_invI {a : Addr} (hC : ma_Cx y p l s m args meth c D aC) (hvw : ma_IW y.1.cls idx y2 n) (hn : As.length = n) (hd : decode y.2.1 pc = .ok (.invokespecial idx, 3)) :
    ma_Inv p l e R s m args below meth c H y2 (F0 m pc L (As.reverse ++ .ref a :: S')) S' (.ref a :: As) := by
  intro T locs cells slots hT X
  obtain ⟨hx, hb, hml, hr, hown, hts, hlocks, hnm, hex, hK, hKa, hNc, hfl, hmH⟩ := id hC
  obtain ⟨hlk, hinst, hy1, hy, hpar, hcd, hcw, -, -⟩ := hvw
  have hcode : (Cond.code y2.1 y2.2.1 y2.2.2.1 none).before args s = true := hts _ hcd
  have hpl : e.platform.magicAccessors = ({} : Platform).magicAccessors := by rw [X.admits.platform]
  obtain ⟨mk, methM, cM, kP, vm₁, hnamed, hmethM, hcodeM, -, hlocalsM, -, hkP, -, hW₁, hstep₁⟩ := Steps.initColdArgs (e := e) X.here hx X.warmed hpl hown hy1 hy (hts _ hlk) (hts _ hinst) hcode (f := F0 m pc L (As.reverse ++ .ref a :: S')) rfl (argsL := As) (a := a) (rest := S') (fun sig h9 => hn.trans (ma_par hpar h9)) rfl (by rw [hb]; exact hd)
  exact ⟨vm₁, mk, X.noted hW₁, hnamed, fun target h9 => hstep₁ _ h9⟩
end INV
theorem Go.callV {sc : Nat × (Nat → Int32)} {cl rd rd2 : Bool} {d2 bc2 bs2 bc bs : Nat} {y : MD} {pc : Nat} {ls st stk ls2 : List AV} {h : AH} {Q : GO → AH → Prop} (cl' : Bool) (y2 : MD) (vs : List AV) {k i idx : Nat} {Q2 : GO → AH → Prop} (hd : decode y.2.1 pc = .ok (.invokevirtual idx, 3)) (hvw : ma_VW y.1.cls idx y2 k vs.length) (hk : k < 90) (hs : vs.reverse ++ vO k i :: st = stk) (hl2 : (vO k i :: vs) ++ List.replicate (y2.2.2.1 - (vs.length + 1)) vU = ls2) (hN : vs.length + 1 ≤ y2.2.2.1) (hnl : ∀ v ∈ vs, ma_nl v) (h8 : st.length ≤ 4)
    (hcl' : cl' = true → cl = true ∧ rd2 = true ∧ ∀ g h1, Q2 g h1 → h1 = h) (G2 : Go sc true rd2 d2 bc2 bs2 y2 0 ls2 [] h Q2) (kr : ∀ h1, Q2 (.inl none) h1 → Go sc cl' rd (d2 + 1) bc bs y (pc + 3) ls st h1 Q) (kv : ∀ v h1, Q2 (.inl (some v)) h1 → Go sc cl' rd (d2 + 1) bc bs y (pc + 3) ls (v :: st) h1 Q) (kt : ∀ k h1, Q2 (.inr k) h1 → ma_thr sc cl' rd (d2 + 1) bc bs y pc ls h1 Q k) : Go sc cl rd (d2 + 1) (bc + bc2) (bs + bs2) y pc ls stk h Q := by
  intro p l e R s m args below meth c H locs cells slots mc ms D aC A ad ad0 n0 L S hC hDy
  obtain ⟨hRm, hHR, hSX, hS, hA, hEx, hL, hSt, hCl⟩ := id hDy
  subst hs
  obtain ⟨S1, S2, rfl, hv1, x, S', rfl, hx1, hSt'⟩ := ma_SR_app hSt
  obtain ⟨hi, rfl⟩ := ma_ref (Or.inl hk) hx1
  have hAs : ma_SR ad (ma_n h) (vO k i :: vs) (.ref (ad k i) :: S1.reverse) := ⟨_, _, rfl, hx1, by have := ma_SR_rev hv1; rwa [List.reverse_reverse] at this⟩
  have hlen : S1.reverse.length = vs.length := by
    have := ma_SR_len hv1
    simpa using this
  have hinv := ma_invV (l := l) (e := e) (R := R) (below := below) (L := L) (S' := S') (pc := pc) hC hHR hk hi hvw hlen hd
  rw [List.reverse_reverse] at hinv
  have hsum := ma_SR_sum hSt'
  obtain ⟨-, -, -, -, -, hcw, hpl, h40⟩ := hvw
  subst hl2
  exact ma_call hC ⟨hRm, hHR, hSX, hS, hA, hEx, hL, hSt', hCl⟩ hinv hcw hpl (by simpa using hN) h40 (fun v hv => by rcases List.mem_cons.mp hv with rfl | hv; exact trivial; exact hnl v hv) hAs (by omega) hd hcl' G2 kr kv kt
theorem Go.callS {sc : Nat × (Nat → Int32)} {cl rd rd2 : Bool} {d2 bc2 bs2 bc bs : Nat} {y : MD} {pc : Nat} {ls st stk ls2 : List AV} {h : AH} {Q : GO → AH → Prop} (cl' : Bool) (y2 : MD) (vs : List AV) {idx : Nat} {Q2 : GO → AH → Prop} (hd : decode y.2.1 pc = .ok (.invokestatic idx, 3)) (hvw : ma_SW y.1.cls idx y2 vs.length) (hs : vs.reverse ++ st = stk) (hl2 : vs ++ List.replicate (y2.2.2.1 - vs.length) vU = ls2) (hN : vs.length ≤ y2.2.2.1) (hnl : ∀ v ∈ vs, ma_nl v) (h8 : st.length ≤ 4)
    (hcl' : cl' = true → cl = true ∧ rd2 = true ∧ ∀ g h1, Q2 g h1 → h1 = h) (G2 : Go sc true rd2 d2 bc2 bs2 y2 0 ls2 [] h Q2) (kr : ∀ h1, Q2 (.inl none) h1 → Go sc cl' rd (d2 + 1) bc bs y (pc + 3) ls st h1 Q) (kv : ∀ v h1, Q2 (.inl (some v)) h1 → Go sc cl' rd (d2 + 1) bc bs y (pc + 3) ls (v :: st) h1 Q) (kt : ∀ k h1, Q2 (.inr k) h1 → ma_thr sc cl' rd (d2 + 1) bc bs y pc ls h1 Q k) : Go sc cl rd (d2 + 1) (bc + bc2) (bs + bs2) y pc ls stk h Q := by
  intro p l e R s m args below meth c H locs cells slots mc ms D aC A ad ad0 n0 L S hC hDy
  obtain ⟨hRm, hHR, hSX, hS, hA, hEx, hL, hSt, hCl⟩ := id hDy
  subst hs
  obtain ⟨S1, S', rfl, hv1, hSt'⟩ := ma_SR_app hSt
  have hAs : ma_SR ad (ma_n h) vs S1.reverse := by have := ma_SR_rev hv1; rwa [List.reverse_reverse] at this
  have hlen : S1.reverse.length = vs.length := by
    have := ma_SR_len hv1
    simpa using this
  have hinv := ma_invS (l := l) (e := e) (R := R) (below := below) (H := H) (L := L) (S' := S') (pc := pc) hC hvw hlen hd
  rw [List.reverse_reverse] at hinv
  have hsum := ma_SR_sum hSt'
  obtain ⟨-, -, -, -, -, hcw, hpl, h40⟩ := hvw
  subst hl2
  exact ma_call hC ⟨hRm, hHR, hSX, hS, hA, hEx, hL, hSt', hCl⟩ hinv hcw hpl hN h40 hnl hAs (by omega) hd hcl' G2 kr kv kt
theorem Go.callI {sc : Nat × (Nat → Int32)} {cl rd rd2 : Bool} {d2 bc2 bs2 bc bs : Nat} {y : MD} {pc : Nat} {ls st stk ls2 : List AV} {h : AH} {Q : GO → AH → Prop} (cl' : Bool) (y2 : MD) (vs : List AV) {k i idx : Nat} {Q2 : GO → AH → Prop} (hd : decode y.2.1 pc = .ok (.invokespecial idx, 3)) (hvw : ma_IW y.1.cls idx y2 vs.length) (hk : k < 90) (hs : vs.reverse ++ vO k i :: st = stk) (hl2 : (vO k i :: vs) ++ List.replicate (y2.2.2.1 - (vs.length + 1)) vU = ls2) (hN : vs.length + 1 ≤ y2.2.2.1) (hnl : ∀ v ∈ vs, ma_nl v) (h8 : st.length ≤ 4)
    (hcl' : cl' = true → cl = true ∧ rd2 = true ∧ ∀ g h1, Q2 g h1 → h1 = h) (G2 : Go sc true rd2 d2 bc2 bs2 y2 0 ls2 [] h Q2) (kr : ∀ h1, Q2 (.inl none) h1 → Go sc cl' rd (d2 + 1) bc bs y (pc + 3) ls st h1 Q) (kv : ∀ v h1, Q2 (.inl (some v)) h1 → Go sc cl' rd (d2 + 1) bc bs y (pc + 3) ls (v :: st) h1 Q) (kt : ∀ k h1, Q2 (.inr k) h1 → ma_thr sc cl' rd (d2 + 1) bc bs y pc ls h1 Q k) : Go sc cl rd (d2 + 1) (bc + bc2) (bs + bs2) y pc ls stk h Q := by
  intro p l e R s m args below meth c H locs cells slots mc ms D aC A ad ad0 n0 L S hC hDy
  obtain ⟨hRm, hHR, hSX, hS, hA, hEx, hL, hSt, hCl⟩ := id hDy
  subst hs
  obtain ⟨S1, S2, rfl, hv1, x, S', rfl, hx1, hSt'⟩ := ma_SR_app hSt
  obtain ⟨hi, rfl⟩ := ma_ref (Or.inl hk) hx1
  have hAs : ma_SR ad (ma_n h) (vO k i :: vs) (.ref (ad k i) :: S1.reverse) := ⟨_, _, rfl, hx1, by have := ma_SR_rev hv1; rwa [List.reverse_reverse] at this⟩
  have hlen : S1.reverse.length = vs.length := by
    have := ma_SR_len hv1
    simpa using this
  have hinv := ma_invI (l := l) (e := e) (R := R) (below := below) (H := H) (L := L) (S' := S') (pc := pc) (a := ad k i) hC hvw hlen hd
  rw [List.reverse_reverse] at hinv
  have hsum := ma_SR_sum hSt'
  obtain ⟨-, -, -, -, -, -, hcw, hpl, h40⟩ := hvw
  subst hl2
  exact ma_call hC ⟨hRm, hHR, hSX, hS, hA, hEx, hL, hSt', hCl⟩ hinv hcw hpl (by simpa using hN) h40 (fun v hv => by rcases List.mem_cons.mp hv with rfl | hv; exact trivial; exact hnl v hv) hAs (by omega) hd hcl' G2 kr kv kt
end
section
theorem Go.mmax {sc : Nat × (Nat → Int32)} {cl rd : Bool} {d bc bs : Nat} {y : MD} {pc : Nat} {ls st : List AV} {h : AH} {Q : GO → AH → Prop} {idx : Nat} {x y' : Int32} (hd : decode y.2.1 pc = .ok (.invokestatic idx, 3)) (hw : Cond.methodLink y.1.cls idx Lib.Math.max.name ∈ maT ∧ Cond.static Lib.Math.max.name ∈ maT ∧ Cond.initialized "java/lang/Math" ∈ maT ∧ Cond.code Lib.Math.max.name Lib.Math.max.code 2 (some .int) ∈ maT) (h8 : st.length ≤ 4) (hd1 : 1 ≤ d) (kk : Go sc cl rd d bc bs y (pc + 3) ls (vI (if x < y' then y' else x) :: st) h Q) : Go sc cl rd d bc bs y pc ls (vI y' :: vI x :: st) h Q := by
  intro p l e R s m args below meth c H locs cells slots mc ms D aC A ad ad0 n0 L S hC hDy
  obtain ⟨hx, hb, hml, hr, hown, hts, hlocks, hnm, hex, hK, hKa, hNc, hfl, hmH⟩ := id hC
  obtain ⟨hRm, hHR, hSX, hS, hA, hEx, hL, hSt, hCl⟩ := id hDy
  obtain ⟨z1, S1, rfl, rfl, z2, S2, rfl, rfl, hSt⟩ := hSt
  obtain ⟨r1, r2, r3, r4, r5, r6⟩ := id hRm
  have hsum := ma_SR_sum hSt
  exact va_mmax hx hb (hml.trans hL.1.symm) hown (hts _ hw.1) (hts _ hw.2.1) (hts _ hw.2.2.1) (hts _ hw.2.2.2) (by omega) (by omega) (by omega) (by omega) hd (kk p l e R s m args below meth c H locs cells slots mc ms D aC A ad ad0 n0 L (.int (if x < y' then y' else x) :: S2) hC ⟨hRm, hHR, hSX, hS, hA, hEx, hL, ⟨_, _, rfl, rfl, hSt⟩, hCl⟩)

theorem Go.mmin {sc : Nat × (Nat → Int32)} {cl rd : Bool} {d bc bs : Nat} {y : MD} {pc : Nat} {ls st : List AV} {h : AH} {Q : GO → AH → Prop} {idx : Nat} {x y' : Int32} (hd : decode y.2.1 pc = .ok (.invokestatic idx, 3)) (hw : Cond.methodLink y.1.cls idx Lib.Math.min.name ∈ maT ∧ Cond.static Lib.Math.min.name ∈ maT ∧ Cond.initialized "java/lang/Math" ∈ maT ∧ Cond.code Lib.Math.min.name Lib.Math.min.code 2 (some .int) ∈ maT) (h8 : st.length ≤ 4) (hd1 : 1 ≤ d) (kk : Go sc cl rd d bc bs y (pc + 3) ls (vI (if y' < x then y' else x) :: st) h Q) : Go sc cl rd d bc bs y pc ls (vI y' :: vI x :: st) h Q := by
  intro p l e R s m args below meth c H locs cells slots mc ms D aC A ad ad0 n0 L S hC hDy
  obtain ⟨hx, hb, hml, hr, hown, hts, hlocks, hnm, hex, hK, hKa, hNc, hfl, hmH⟩ := id hC
  obtain ⟨hRm, hHR, hSX, hS, hA, hEx, hL, hSt, hCl⟩ := id hDy
  obtain ⟨z1, S1, rfl, rfl, z2, S2, rfl, rfl, hSt⟩ := hSt
  obtain ⟨r1, r2, r3, r4, r5, r6⟩ := id hRm
  have hsum := ma_SR_sum hSt
  exact va_mmin hx hb (hml.trans hL.1.symm) hown (hts _ hw.1) (hts _ hw.2.1) (hts _ hw.2.2.1) (hts _ hw.2.2.2) (by omega) (by omega) (by omega) (by omega) hd (kk p l e R s m args below meth c H locs cells slots mc ms D aC A ad ad0 n0 L (.int (if y' < x then y' else x) :: S2) hC ⟨hRm, hHR, hSX, hS, hA, hEx, hL, ⟨_, _, rfl, rfl, hSt⟩, hCl⟩)

/-- System.arraycopy from one int array to another -/
theorem Go.acopy {sc : Nat × (Nat → Int32)} {cl rd : Bool} {d bc bs : Nat} {y : MD} {pc : Nat} {ls st : List AV} {h : AH} {Q : GO → AH → Prop} {idx i0 i1 sp dp n : Nat} (hd : decode y.2.1 pc = .ok (.invokestatic idx, 3)) (hw : Cond.methodLink y.1.cls idx arraycopyName ∈ maT ∧ Cond.native arraycopyName ∈ maT ∧ Cond.static arraycopyName ∈ maT ∧ Cond.initialized "java/lang/System" ∈ maT) (hne : i0 ≠ i1) (h8 : st.length ≤ 4) (hd1 : 1 ≤ d) (hsp : sp < 65536) (hdp : dp < 65536) (hnn : n < 65536) (h4 : sp + n ≤ h.2.2.2.1 100 i0) (h5 : dp + n ≤ h.2.2.2.1 100 i1)
    (kk : Go sc false rd d bc bs y (pc + 3) ls st (fun k i j => if k = 100 ∧ i = i1 then va_cpy (h.1 100 i0) (h.1 100 i1) sp dp n j else h.1 k i j, h.2) Q) : Go sc cl rd d bc bs y pc ls (vI (nI n) :: vI (nI dp) :: vO 100 i1 :: vI (nI sp) :: vO 100 i0 :: st) h Q := by
  intro p l e R s m args below meth c H locs cells slots mc ms D aC A ad ad0 n0 L S hC hDy
  obtain ⟨hx, hb, hml, hr, hown, hts, hlocks, hnm, hex, hK, hKa, hNc, hfl, hmH⟩ := id hC
  obtain ⟨hRm, hHR, hSX, hS, hA, hEx, hL, hSt, hCl⟩ := id hDy
  obtain ⟨z1, S1, rfl, rfl, z2, S2, rfl, rfl, z3, S3, rfl, hv1, z4, S4, rfl, rfl, z5, S5, rfl, hv0, hSt⟩ := hSt
  obtain ⟨hi1, rfl⟩ := ma_ref (Or.inr (by omega)) hv1
  obtain ⟨hi0, rfl⟩ := ma_ref (Or.inr (by omega)) hv0
  obtain ⟨r1, r2, r3, r4, r5, r6⟩ := id hRm
  have hsum := ma_SR_sum hSt
  obtain ⟨Ls, hm, hnd, hP, hD, h90, hcl⟩ := id hHR
  obtain ⟨q0, hq0⟩ := ma_pos hm hi0
  obtain ⟨q1, hq1⟩ := ma_pos hm hi1
  have he0 := ma_ws_at (aC := aC) (ad := ad) (h := h) hq0
  have he1 := ma_ws_at (aC := aC) (ad := ad) (h := h) hq1
  rw [ma_E_arr (by omega), ma_ar_i (by omega) (by omega)] at he0 he1
  have hKt : va_K D maCl [(aC 100, .int)] s := ⟨hK.1, fun j q hq => by
    have hj : j < 1 := (List.getElem?_eq_some_iff.mp hq).1
    rw [show j = 0 by omega] at hq
    cases hq
    exact hKa _ _ rfl⟩
  have esp : (nI sp).toNatClampNeg = sp := nI_clamp (by omega)
  have edp : (nI dp).toNatClampNeg = dp := nI_clamp (by omega)
  have en : (nI n).toNatClampNeg = n := nI_clamp (by omega)
  have hset := ma_ws_set (aC := aC) (ad := ad) (h := h) (h' := (fun k i j => if k = 100 ∧ i = i1 then va_cpy (h.1 100 i0) (h.1 100 i1) sp dp n j else h.1 k i j, h.2)) (e := .inl (aC 100, h.2.2.2.1 100 i1, .inl (va_cpy (h.1 100 i0) (h.1 100 i1) sp dp n))) hnd hq1 ((ma_E_arr (by omega)).trans (by simp [ma_ar])) (by
    intro x hx
    have e1 : (fun j => if x.1 = 100 ∧ x.2 = i1 then va_cpy (h.1 100 i0) (h.1 100 i1) sp dp n j else h.1 x.1 x.2 j) = h.1 x.1 x.2 := by
      funext j
      rw [if_neg]
      rintro ⟨g1, g2⟩
      exact hx (Prod.ext g1 g2)
    have e2 : ∀ j, (if x.1 = 100 ∧ x.2 = i1 then va_cpy (h.1 100 i0) (h.1 100 i1) sp dp n j else h.1 x.1 x.2 j) = h.1 x.1 x.2 j := fun j => congrFun e1 j
    simp only [ma_E, ma_fs, ma_ar, e1, e2])
  have hcl1 : ma_cls (fun k i j => if k = 100 ∧ i = i1 then va_cpy (h.1 100 i0) (h.1 100 i1) sp dp n j else h.1 k i j, h.2) := by
    refine ⟨hcl.1, fun k i j hk => ⟨?_, (hcl.2 k i j hk).2⟩⟩
    show (if k = 100 ∧ i = i1 then _ else _) = _
    rw [if_neg]
    · exact (hcl.2 k i j hk).1
    · rintro ⟨rfl, rfl⟩
      have hk' : ma_n h 100 ≤ i := hk
      omega
  refine va_copyi (D := D) (f := h.1 100 i0) (g := h.1 100 i1) hx hb (hml.trans hL.1.symm) hown (hts _ hw.1) (hts _ hw.2.1) (hts _ hw.2.2.1) (hts _ hw.2.2.2) hKt hP hD hS q0 q1 0 0 he0 he1 rfl rfl rfl (nI_pos (by omega)) (nI_pos (by omega)) (nI_pos (by omega)) (by rw [esp, en]; exact h4) (by rw [edp, en]; exact h5) (fun i _ => rfl) (by omega) (by
    have : nativeFrameWords "java/lang/System" "arraycopy" 5 + 11 ≤ 56 := by decide +kernel
    omega) hd (fun H1 locs1 hP1 hD1 hS1 => ?_)
  rw [esp, edp, en] at hP1 hD1
  rw [hset] at hP1 hD1
  exact kk p l e R s m args below meth c H1 locs1 cells slots mc ms D aC A ad ad0 n0 L S5 hC ⟨hRm, ⟨Ls, hm, hnd, hP1, hD1, h90, hcl1⟩, hSX, hS1, hA, hEx, hL, hSt, fun h9 => nomatch h9⟩
end
section
/-! A new exception whose own constructor calls RuntimeException's by any place ix of its pool (the library's row has the place 7 alone) -/
def ma_CA (own : String) (ic : Nat) (X : String) (ix : Nat) (by6 : ByteArray) : List Cond := Bundle.throwableAtoms ++ Bundle.throwableSAtoms ++ Bundle.passSAtoms X "java/lang/RuntimeException" ix by6 ++ Bundle.chainSAtoms "java/lang/RuntimeException" ["java/lang/Exception"] ++
  [.methodLink own ic (Bundle.initS X), .instantiable X 6, .castable X X, .selects X Bundle.tFill0 Bundle.tFill0, .selects X Bundle.tFill Bundle.tFill,
   .lays X Bundle.tN "cause" "Ljava/lang/Throwable;", .lays X Bundle.tN "stackTrace" Bundle.steD, .lays X Bundle.tN "suppressedExceptions" Bundle.listD, .lays X Bundle.tN "detailMessage" "Ljava/lang/String;",
   .isRef (.static Bundle.tN "UNASSIGNED_STACK" Bundle.steD), .isRef (.static Bundle.tN "SUPPRESSED_SENTINEL" Bundle.listD),
   .fieldLink Bundle.tN 198 Bundle.tN "backtrace" "Ljava/lang/Object;", .lays Bundle.tN Bundle.tN "backtrace" "Ljava/lang/Object;", .lays X Bundle.tN "backtrace" "Ljava/lang/Object;"]
section CTOR
variable {p : Program} {l : Launch} {e : Env} {R : Room} {s : State} {m₀ : MethodId} {args : Array Value} {below : List Frame} {meth : Method} {c : Code} {T0 : State} {locs : List Loc} {cells slots : Nat}
set_option maxHeartbeats 2000000 in
theorem ma_ctor (X : Stand p l e R s m₀ args below meth c T0 locs cells slots) (hexec : p.tables.exec = Jvm.exec) (htr : e.platform.stackTraces = false) {own cls : String} {ic ix : Nat} {by6 : ByteArray} (hown : s.vm.findClass own = some m₀.cls) (hcls : Bundle.fit cls = true)
    (e0 : decode by6 0 = .ok (.aload_n 0, 1)) (e1 : decode by6 1 = .ok (.aload_n 1, 1)) (e2 : decode by6 2 = .ok (.invokespecial ix, 3)) (e5 : decode by6 5 = .ok (.return_, 1))
    (h : ∀ a ∈ ma_CA own ic cls ix by6, a.before args s = true) (hlocs : ∀ x ∈ locs, ∀ cell, s.heap[x.base]? = some cell → cell.vm.isStatics = false)
    {a : Addr} {cX : ClassId} {kX : Class} (hfX : s.vm.findClass cls = some cX) (hkX : s.vm.classes[cX]? = some kX) (hcell : T0.heap[a]? = some (freshCell cX kX)) (hnew : s.heap.size ≤ a) {msg : Value} (hmsg : msg.isRef = true)
    {g : JFrame} (hg : g.method = m₀) (hsize : g.locals.size = c.maxLocals) (hlocked : g.locked = none) (hentered : g.entered = []) {rest : List Value} (hstack : g.stack = msg :: .ref a :: .ref a :: rest)
    (hd6 : decode c.code g.pc = .ok (.invokespecial ic, 3)) (hd9 : decode c.code (g.pc + 3) = .ok (.athrow, 1)) (hout : ∀ x ∈ c.exceptionTable.toList, covers x (g.pc + 3) = false)
    (hRf : 5 < R.frames) (hRl : 2 * g.monitorRoom + ((Value.ref a :: rest).map fun v => v.category).sum + 81 ≤ R.locals) (hlocks : meth.locks = false) :
    ∃ U : State, Steps p.tables e below (T0.setTop g) U ∧ U.status = .running ∧ Ended U below (.threw a) ∧ s.WarmedH U.vm ∧ s.sameButNew ({ U with vm := s.vm } : State) locs cells slots ∧ ∃ ce : Cell, U.heap[a]? = some ce ∧ ce.cls = cX ∧ ce.vm = .none := by
  have hpl : e.platform.magicAccessors = ({} : Platform).magicAccessors := by rw [X.admits.platform]
  have hh : ∀ w, w ∈ ma_CA own ic cls ix by6 → w.holds args s none s [] = true := fun w hw => h w hw
  have hi : ∀ w, w ∈ ma_CA own ic cls ix by6 → w.before args s = true := h
  obtain ⟨T, Z0, hT, -, Y⟩ := ThrowableC.of_atoms (args := args) (pl := e.platform) (by rw [X.admits.platform]) (by rw [X.admits.platform]) hpl (fun w hw => h w (by simp [ma_CA, hw]))
  obtain ⟨Z, M, hZ, hM, hnZ⟩ := Init0T.ofS_atoms (args := args) hpl hT Y (fun w hw => h w (by simp [ma_CA, hw]))
  obtain ⟨P1, hP1, hP1m, hP1s⟩ := PassC.ofS_atoms (args := args) (s := s) hpl (X := cls) (Y := "java/lang/RuntimeException") (Bundle.fit_spec hcls).1 (by decide) e0 e1 e2 e5 (fun w hw => h w (by simp [ma_CA, hw]))
  obtain ⟨P2, Ps, hlen, hP2, hPs, hP2m, hsup, hpass⟩ := Bundle.chainS (args := args) hpl hnZ ["java/lang/Exception"] "java/lang/RuntimeException" (by decide +kernel) (by decide +kernel) (fun w hw => h w (by simp [ma_CA, hw]))
  have hlink : P1.sup = P2.m := Option.some.inj (hP1s.symm.trans hP2m)
  have hfd : s.vm.findClass cls = some P1.m.cls := findClass_of_methodNamed hP1m
  cases Option.some.inj (hfX.symm.trans hfd)
  obtain ⟨c1, kX', hc1, hk, hord, -, -, hn6⟩ := Cond.instantiable_spec (hh (.instantiable cls 6) (by simp [ma_CA]))
  cases Option.some.inj (hc1.symm.trans hfd)
  cases Option.some.inj (hkX.symm.trans hk)
  have sel : ∀ {y : MethodName} {mi : MethodId}, s.methodNamed? y = some mi → (y.cls ≠ "java/lang/invoke/MethodHandle" ∧ y.cls ≠ "java/lang/invoke/VarHandle") → Cond.selects cls y y ∈ ma_CA own ic cls ix by6 → selectMethod e.platform s.vm P1.m.cls mi = .method mi := by
    intro y mi hy hne hin
    obtain ⟨z1, z2, z3, q1, q2, q3, q4, -⟩ := Cond.selects_spec (hh _ hin)
    cases Option.some.inj (q1.symm.trans hfd)
    cases Option.some.inj (q2.symm.trans (State.methodFound?_of_named hy hne))
    cases Option.some.inj (q3.symm.trans hy)
    rw [Launch.admits_selectMethod X.admits]; exact q4
  have hsel0 := sel Y.fill0 (by decide) (by simp [ma_CA])
  have hselF := sel Y.fill (by decide) (by simp [ma_CA])
  obtain ⟨cs0, hcs0, hst⟩ := Y.statics
  obtain ⟨u0, hu0⟩ := Cond.staticRefV Y.unassigned hT.unassignedStatic hT.statics hcs0 hst (hh (.isRef (.static Bundle.tN "UNASSIGNED_STACK" Bundle.steD)) (by simp [ma_CA]))
  obtain ⟨sen, hsen⟩ := Cond.staticRefV Y.sentinel hT.sentinelStatic hT.statics hcs0 hst (hh (.isRef (.static Bundle.tN "SUPPRESSED_SENTINEL" Bundle.listD)) (by simp [ma_CA]))
  obtain ⟨cB, iB, fB, b1, b2, b3, b4, -, b5, b6, hffB⟩ := Cond.ownField (t := .object "java/lang/Object") Y.found hT.cls (by decide +kernel) (hh (.fieldLink Bundle.tN 198 Bundle.tN "backtrace" "Ljava/lang/Object;") (by simp [ma_CA])) (hh (.lays Bundle.tN Bundle.tN "backtrace" "Ljava/lang/Object;") (by simp [ma_CA])) e.platform hpl
  obtain ⟨cs, hcs, hes, -, hkeep⟩ := X.same.2.2.2.2.2 T.aS cs0 hcs0
  have hcs' : T0.heap[T.aS]? = some cs := hcs
  have hfree : ∀ i, (⟨T.aS, i⟩ : Loc) ∉ locs := fun i hm9 => by
    have := hlocs _ hm9 cs0 hcs0
    rw [hst] at this; cases this
  have hkn : cs.vm ≠ .unknown := by
    rw [hes]; intro hu
    rw [show cs0.vm = .unknown from hu] at hst
    cases hst
  have hne : T.aS ≠ a := Nat.ne_of_lt (Nat.lt_of_lt_of_le (Array.getElem?_eq_some_iff.mp hcs0).1 hnew)
  obtain ⟨iM, hffM⟩ := Y.msg
  obtain ⟨tC, dC, gC, nC⟩ := Cond.laysAt hfd hk Y.cause (hh (.lays cls Bundle.tN "cause" "Ljava/lang/Throwable;") (by simp [ma_CA]))
  obtain ⟨tS, dS, gS, nS⟩ := Cond.laysAt hfd hk Y.stack (hh (.lays cls Bundle.tN "stackTrace" Bundle.steD) (by simp [ma_CA]))
  obtain ⟨tP, dP, gP, nP⟩ := Cond.laysAt hfd hk Y.supp (hh (.lays cls Bundle.tN "suppressedExceptions" Bundle.listD) (by simp [ma_CA]))
  obtain ⟨tM, dM, gM, nM⟩ := Cond.laysAt hfd hk hffM (hh (.lays cls Bundle.tN "detailMessage" "Ljava/lang/String;") (by simp [ma_CA]))
  obtain ⟨tB, dB, gB, nB⟩ := Cond.laysAt hfd hk hffB (hh (.lays cls Bundle.tN "backtrace" "Ljava/lang/Object;") (by simp [ma_CA]))
  have bC := Cond.laysApart gB gC nB nC (by rw [b5, Y.causeName]; decide)
  have bS := Cond.laysApart gB gS nB nS (by rw [b5, Y.stackName]; decide)
  have bP := Cond.laysApart gB gP nB nP (by rw [b5, Y.suppName]; decide)
  have hskip : SkipFacts T e.platform s (fun u => u) u0 ((preparedCellV T.toThrowableT (freshCell P1.m.cls kX) a u0 sen).withEntry T0.cur) :=
    ⟨{ ci198 := cB, i198 := iB, fBack := fB }, ⟨b1, b2, b3, b4⟩, by
      have := fresh_default (c := P1.m.cls) tB
      rw [b6] at this
      simpa [preparedCellV, Cell.setSlot, Cell.withEntry, Array.getElem?_setIfInBounds, bC, bS, bP, bC.symm, bS.symm, bP.symm, defaultValue] using this, fun _ _ => rfl⟩
  obtain ⟨tm, _, _, _, vm₁, hnC, -, -, -, -, -, -, -, hW₁, st1⟩ := Steps.initColdS (tb := p.tables) (e := e) (below := below) (s := s) (U := T0) X.here hexec X.warmed hpl hown (t := Bundle.initS cls) rfl rfl (Bundle.fit_spec hcls).2 (hi (.methodLink own ic (Bundle.initS cls)) (by simp [ma_CA])) (hi (.instanceMethod (Bundle.initS cls)) (by simp [ma_CA, Bundle.passSAtoms])) (bytes := by6) (maxL := 2) (hi (.code (Bundle.initS cls) by6 2 none) (by simp [ma_CA, Bundle.passSAtoms])) (f := g) hg (a := a) (msg := msg) (rest := .ref a :: rest) hstack hd6
  cases Option.some.inj (hnC.symm.trans hP1m)
  obtain ⟨vm₂, X₂, st2⟩ := (X.noted hW₁).ctorMessageOffV hexec (g := { g with stack := .ref a :: rest }) hg hsize T hT Z hZ M hM (P1 :: P2 :: Ps)
    (fun P hP => by
      rcases List.mem_cons.mp hP with rfl | hP
      · exact hP1
      · rcases List.mem_cons.mp hP with rfl | hP
        · exact hP2
        · exact hPs P hP) ⟨hlink, hsup, hpass⟩ (u0 := u0) (sen := sen) (self := a) hmsg (cell := freshCell P1.m.cls kX) (cellS := cs)
    hcell (fun _ => by simp) (by simp) rfl rfl hsel0 hselF hcs' hne hkn (by rw [hkeep _ (hfree _)]; exact hu0) (by rw [hkeep _ (hfree _)]; exact hsen)
    (Takes.of_laid hk hord tC (by rw [Y.causeType]; rfl)) (Takes.of_laid hk hord tS (by rw [Y.stackType]; exact fits_refV_array _ u0)) (Takes.of_laid hk hord tP (by rw [Y.suppType]; exact fits_refV_object _ sen))
    (Takes.of_laid hk hord tM (by rw [Y.msgType]; exact fits_refV_object _ ⟨msg, hmsg⟩)) Y.objLocals hskip htr [] hd6 (by simp only [List.length_cons, hlen, List.length_nil]; omega) (by simp only [List.length_cons, hlen, List.length_nil]; exact hRl)
  obtain ⟨hwalk, hrun, hend, hWU, hsame⟩ := X₂.athrowLeaves hexec (g := { g with stack := .ref a :: rest, pc := g.pc + 3 }) hg hlocked hentered hout (a := a) (rest := rest) rfl hd9 hlocks
  have hlt : a < ((T0.setVm vm₁).setVm vm₂).heap.size := (Array.getElem?_eq_some_iff.mp hcell).1
  refine ⟨_, st1 _ (fun acts => by rw [doInvoke_state]; exact st2 _ hwalk), hrun, hend, hWU, hsame.weaken (fun z hz hz2 => ?_) (Nat.le_refl _) (Nat.le_refl _), _, heapAt_setCell_self (s := (T0.setVm vm₁).setVm vm₂) (plainBareV T.toThrowableT (freshCell P1.m.cls kX) a u0 sen msg) hlt, rfl, rfl⟩
  rcases List.mem_append.mp hz with h1 | h1
  · exact h1
  · have hb9 : z.base = a := by
      simp only [List.mem_cons, List.not_mem_nil, or_false] at h1
      rcases h1 with rfl | rfl | rfl | rfl | rfl <;> rfl
    rw [hb9] at hz2
    exact absurd hz2 (Nat.not_lt.mpr hnew)
end CTOR
end
section
/-! A NEW EXCEPTION IS THROWN, before anything was written: new, dup, ldc, invokespecial, athrow -/
theorem ma_same0 {s U : State} {k n : Nat} (h : s.sameButNew U [] k n) {q : Nat} {x : Cell} (hc : s.heap[q]? = some x) : U.heap[q]? = some x := by
  obtain ⟨x', h1, h2, h3, h4⟩ := h.2.2.2.2.2 q x hc
  have e1 : x'.slots = x.slots := by
    apply Array.ext_getElem?
    intro i
    exact h4 i (by simp)
  rw [h1, h2, e1]
/-- the tables' words of a throw in the class own -/
def ma_TW (own : String) (k icls istr ictor : Nat) (tx : String) : Prop := Cond.classLink own icls (ma_en k) ∈ maT ∧ Cond.instantiable (ma_en k) 6 ∈ maT ∧ Cond.initialized (ma_en k) ∈ maT ∧ Cond.stringRef own istr tx ∈ maT ∧ Bundle.fit (ma_en k) = true ∧ ∃ (ix : Nat) (by6 : ByteArray), (decode by6 0 = .ok (.aload_n 0, 1) ∧ decode by6 1 = .ok (.aload_n 1, 1) ∧ decode by6 2 = .ok (.invokespecial ix, 3) ∧ decode by6 5 = .ok (.return_, 1)) ∧ ∀ a ∈ ma_CA own ictor (ma_en k) ix by6, a ∈ maT ∨ a ∈ maH
set_option maxHeartbeats 1000000 in
theorem Go.thrown {sc : Nat × (Nat → Int32)} {rd : Bool} {d bc bs : Nat} {y : MD} {pc : Nat} {ls st : List AV} {h : AH} {Q : GO → AH → Prop} {k icls istr ictor : Nat} {tx : String} (hd0 : decode y.2.1 pc = .ok (.new icls, 3)) (hd3 : decode y.2.1 (pc + 3) = .ok (.dup, 1)) (hd4 : decode y.2.1 (pc + 4) = .ok (.ldc istr, 2)) (hd6 : decode y.2.1 (pc + 6) = .ok (.invokespecial ictor, 3)) (hd9 : decode y.2.1 (pc + 9) = .ok (.athrow, 1))
    (hw : ma_TW y.1.cls k icls istr ictor tx) (hout : (tableOf y.2.2.2.2).all (fun x => !covers x (pc + 9)) = true) (hd8 : 8 ≤ d) (h8 : st.length ≤ 3) (hQ : Q (.inr k) h) : Go sc true rd d (bc + 1) (bs + 6) y pc ls st h Q := by
  intro p l e R s m args below meth c H locs cells slots mc ms D aC A ad ad0 n0 L S hC hDy
  obtain ⟨hx, hb, hml, hr, hown, hts, hlocks, hnm, hex, hK, hKa, hNc, hfl, hmH⟩ := id hC
  obtain ⟨⟨r1, r2, r3, r4, r5, r6⟩, hHR, hSX, hS, hA, hEx, hL, hSt, hCl⟩ := id hDy
  obtain ⟨hl0, hHRs⟩ := hCl rfl
  subst hl0
  obtain ⟨w1, w2, w3, w4, w5, ix, by6, ⟨e0, e1, e2, e5⟩, w6⟩ := hw
  refine W.newc hx hb hown (hts _ w1) (hts _ w2) (hts _ w3) (g := F0 m pc L S) rfl hd0 (by omega) (by omega) (fun cC kC f1 f2 f3 f4 => ?_)
  refine W.eq (g2 := F0 m (pc + 3) L (.ref H.size :: S)) rfl ?_
  refine lv_dup hx hb hd3 rfl ?_
  obtain ⟨_, _, _, q, -, -, -, -, -, hev⟩ := Cond.stringRef_spec hown (hts _ w4)
  have hZ : vk_R y.1.cls istr tx q s := vk_R.of (hts _ w4) hev
  refine va_ldcS hx hb hown hZ hd4 ?_
  intro T hT X
  have hsum := ma_SR_sum hSt
  have hroom := lv_room (m := m) (pc := pc + 6) (ls := L) (rest := .ref q :: .ref H.size :: .ref H.size :: S) (st := .ref H.size :: S) (by
    rw [List.map_cons, List.sum_cons]
    have h1 : (Value.ref H.size).category = 1 := rfl
    omega)
  have htr : e.platform.stackTraces = false := by
    rw [X.admits.platform]
    show l.stackTraces = false
    unfold Launch.stackTraces
    rw [hfl]
    decide +kernel
  have hcell : T.heap[H.size]? = some (freshCell cC kC) := by rw [hT]; simp
  have hout' : ∀ z ∈ c.exceptionTable.toList, covers z (pc + 9) = false := by
    intro z hz
    rw [hex] at hz
    have h9 : (!covers z (pc + 9)) = true := List.all_eq_true.mp hout z hz
    cases hcv : covers z (pc + 9) with
    | true => rw [hcv] at h9; cases h9
    | false => rfl
  obtain ⟨U, u1, u2, u3, u4, u5, ce, u6, u7, u8⟩ := ma_ctor X hx htr (own := y.1.cls) (cls := ma_en k) (ic := ictor) hown w5 e0 e1 e2 e5 (fun a ha => (w6 a ha).elim (hts a) (hmH a)) (fun z hz => by cases hz) f1 f2 hcell hS.1 (msg := .ref q) rfl
    (g := F0 m (pc + 6) L (.ref q :: .ref H.size :: .ref H.size :: S)) rfl (hL.1.trans hml.symm) rfl rfl (rest := S) rfl (by rw [hb]; exact hd6) (by rw [hb]; exact hd9) hout' (by omega) (by omega) hlocks
  have hold : ∀ (z : Nat) (x : Cell), s.heap[z]? = some x → U.heap[z]? = some x := fun z x hz => ma_same0 u5 hz
  have hold2 : ∀ z : Nat, z < s.heap.size → U.heap[z]? = s.heap[z]? := fun z hz => by
    obtain ⟨x, hx9⟩ : ∃ x, s.heap[z]? = some x := ⟨_, Array.getElem?_eq_getElem hz⟩
    rw [hx9]; exact hold z x hx9
  refine ⟨U, u1, .threw H.size, u2, u3, u4, ⟨[], u5.mono (by omega) (by omega), fun z hz => (List.not_mem_nil hz).elim, fun _ => rfl⟩, ⟨u5.2.1, fun z hz _ => hold2 z hz⟩, .inr k, h, ad, hQ, ⟨H.size, rfl, ce, u6, by rw [u8]; rfl, by rw [u4.alike.findClass, u7]; exact f1⟩, ?_, hEx⟩
  obtain ⟨Ls, hm, hnd, hP, hD, h90, hcl⟩ := hHRs
  exact ⟨Ls, hm, hnd, hP.kept (fun j z hz => hold2 z.1 ((hP j z hz).lt)), hD, h90, hcl⟩
end
section
/-! Object's constructor, a nest mate's constructor, lcmp -/
theorem Go.objInit {sc : Nat × (Nat → Int32)} {cl rd : Bool} {d bc bs : Nat} {y : MD} {pc : Nat} {ls st : List AV} {h : AH} {Q : GO → AH → Prop} {k i idx : Nat} (hd : decode y.2.1 pc = .ok (.invokespecial idx, 3)) (hw : Cond.methodLink y.1.cls idx objectInit ∈ maT ∧ Cond.instanceMethod objectInit ∈ maT ∧ Cond.code objectInit ⟨#[0xb1]⟩ 1 none ∈ maT) (hd1 : 1 ≤ d) (h8 : st.length ≤ 4) (kk : Go sc cl rd d bc bs y (pc + 3) ls st h Q) : Go sc cl rd d bc bs y pc ls (vO k i :: st) h Q := by
  intro p l e R s m args below meth c H locs cells slots mc ms D aC A ad ad0 n0 L S hC hDy
  obtain ⟨hx, hb, hml, hr, hown, hts, hlocks, hnm, hex, hK, hKa, hNc, hfl, hmH⟩ := id hC
  obtain ⟨hRm, hHR, hSX, hS, hA, hEx, hL, hSt, hCl⟩ := id hDy
  obtain ⟨z1, S1, rfl, hv, hSt⟩ := hSt
  have hv' : ∃ a, z1 = .ref a := by
    rcases hv with ⟨-, a, rfl⟩ | ⟨-, rfl⟩ | ⟨-, rfl⟩ <;> exact ⟨_, rfl⟩
  obtain ⟨a, rfl⟩ := hv'
  obtain ⟨r1, r2, r3, r4, r5, r6⟩ := id hRm
  have hsum := ma_SR_sum hSt
  have hroom := lv_room (m := m) (pc := pc) (ls := L) (rest := .ref a :: S1) (st := S1) (by omega)
  refine W.objInit hx hb hown (hts _ hw.1) (hts _ hw.2.1) (hts _ hw.2.2) rfl (hL.1.trans hml.symm) rfl hd (by omega) (by
    show 2 * (F0 m pc L (.ref a :: S1)).monitorRoom + (S1.map fun v => v.category).sum + 12 ≤ R.locals
    omega) ?_
  exact W.eq (g2 := F0 m (pc + 3) L S1) rfl (kk p l e R s m args below meth c H locs cells slots mc ms D aC A ad ad0 n0 L S1 hC ⟨hRm, hHR, hSX, hS, hA, hEx, hL, hSt, hCl⟩)
theorem Go.lcmp {sc : Nat × (Nat → Int32)} {cl rd : Bool} {d bc bs : Nat} {y : MD} {pc : Nat} {ls st : List AV} {h : AH} {Q : GO → AH → Prop} {a b : Int64} (hd : decode y.2.1 pc = .ok (.lcmp, 1)) (kk : Go sc cl rd d bc bs y (pc + 1) ls (vI (lg_cmp a b) :: st) h Q) : Go sc cl rd d bc bs y pc ls (vL b :: vL a :: st) h Q := by
  intro p l e R s m args below meth c H locs cells slots mc ms D aC A ad ad0 n0 L S hC hDy
  obtain ⟨hx, hb, hml, hr, hown, hts, hlocks, hnm, hex, hK, hKa, hNc, hfl, hmH⟩ := id hC
  obtain ⟨hRm, hHR, hSX, hS, hA, hEx, hL, hSt, hCl⟩ := id hDy
  obtain ⟨z1, S1, rfl, rfl, z2, S2, rfl, rfl, hSt⟩ := hSt
  exact W.lcmp hx hb hd (kk p l e R s m args below meth c H locs cells slots mc ms D aC A ad ad0 n0 L (.int (lg_cmp a b) :: S2) hC ⟨hRm, hHR, hSX, hS, hA, hEx, hL, ⟨_, _, rfl, rfl, hSt⟩, hCl⟩)
def ma_JW (own : String) (idx : Nat) (y2 : MD) (n : Nat) (host : String) : Prop := Cond.methodLinkNest own idx y2.1 host ∈ maT ∧ Cond.instanceMethod y2.1 ∈ maT ∧ y2.1.name = "<init>" ∧ (y2.1.cls ≠ "java/lang/invoke/MethodHandle" ∧ y2.1.cls ≠ "java/lang/invoke/VarHandle") ∧ (parseMethodDescriptor y2.1.desc).map (fun d => d.parameters.length) = some n ∧ Cond.code y2.1 y2.2.1 y2.2.2.1 none ∈ maT ∧ ma_CW y2 ∧ plainFor y2.1 = true ∧ y2.2.2.1 ≤ 40
theorem Go.callJ {sc : Nat × (Nat → Int32)} {cl rd rd2 : Bool} {d2 bc2 bs2 bc bs : Nat} {y : MD} {pc : Nat} {ls st stk ls2 : List AV} {h : AH} {Q : GO → AH → Prop} (cl' : Bool) (y2 : MD) (vs : List AV) {k i idx : Nat} {host : String} {Q2 : GO → AH → Prop} (hd : decode y.2.1 pc = .ok (.invokespecial idx, 3)) (hvw : ma_JW y.1.cls idx y2 vs.length host) (hk : k < 90) (hs : vs.reverse ++ vO k i :: st = stk) (hl2 : (vO k i :: vs) ++ List.replicate (y2.2.2.1 - (vs.length + 1)) vU = ls2) (hN : vs.length + 1 ≤ y2.2.2.1) (hnl : ∀ v ∈ vs, ma_nl v) (h8 : st.length ≤ 4)
    (hcl' : cl' = true → cl = true ∧ rd2 = true ∧ ∀ g h1, Q2 g h1 → h1 = h) (G2 : Go sc true rd2 d2 bc2 bs2 y2 0 ls2 [] h Q2) (kr : ∀ h1, Q2 (.inl none) h1 → Go sc cl' rd (d2 + 1) bc bs y (pc + 3) ls st h1 Q) (kv : ∀ v h1, Q2 (.inl (some v)) h1 → Go sc cl' rd (d2 + 1) bc bs y (pc + 3) ls (v :: st) h1 Q) (kt : ∀ k h1, Q2 (.inr k) h1 → ma_thr sc cl' rd (d2 + 1) bc bs y pc ls h1 Q k) : Go sc cl rd (d2 + 1) (bc + bc2) (bs + bs2) y pc ls stk h Q := by
  intro p l e R s m args below meth c H locs cells slots mc ms D aC A ad ad0 n0 L S hC hDy
  obtain ⟨hx, hb, hml, hr, hown, hts, hlocks, hnm, hex, hK, hKa, hNc, hfl, hmH⟩ := id hC
  obtain ⟨hRm, hHR, hSX, hS, hA, hEx, hL, hSt, hCl⟩ := id hDy
  subst hs
  obtain ⟨S1, S2, rfl, hv1, x, S', rfl, hx1, hSt'⟩ := ma_SR_app hSt
  obtain ⟨hi, rfl⟩ := ma_ref (Or.inl hk) hx1
  have hAs : ma_SR ad (ma_n h) (vO k i :: vs) (.ref (ad k i) :: S1.reverse) := ⟨_, _, rfl, hx1, by have := ma_SR_rev hv1; rwa [List.reverse_reverse] at this⟩
  have hlen : S1.reverse.length = vs.length := by
    have := ma_SR_len hv1
    simpa using this
  obtain ⟨hlk, hinst, hy1, hy, hpar, hcd, hcw, hpl9, h40⟩ := hvw
  have hinv : ma_Inv p l e R s m args below meth c H y2 (F0 m pc L (S1 ++ .ref (ad k i) :: S')) S' (.ref (ad k i) :: S1.reverse) := by
    intro T locs cells slots hT X
    have hpl : e.platform.magicAccessors = ({} : Platform).magicAccessors := by rw [X.admits.platform]
    obtain ⟨mk, methM, cM, kP, vm₁, hnamed, hmethM, hcodeM, -, hlocalsM, -, hkP, -, hW₁, hstep₁⟩ := Steps.initColdArgsNest (e := e) X.here hx X.warmed hpl hown hy1 hy (hts _ hlk) (hts _ hinst) (hts _ hcd) (f := F0 m pc L (S1 ++ .ref (ad k i) :: S')) rfl (argsL := S1.reverse) (a := ad k i) (rest := S') (fun sig h9 => hlen.trans (ma_par hpar h9)) (by rw [List.reverse_reverse]) (by rw [hb]; exact hd)
    exact ⟨vm₁, mk, X.noted hW₁, hnamed, fun target h9 => hstep₁ _ h9⟩
  have hsum := ma_SR_sum hSt'
  subst hl2
  exact ma_call hC ⟨hRm, hHR, hSX, hS, hA, hEx, hL, hSt', hCl⟩ hinv hcw hpl9 (by simpa using hN) h40 (fun v hv => by rcases List.mem_cons.mp hv with rfl | hv; exact trivial; exact hnl v hv) hAs (by omega) hd hcl' G2 kr kv kt
end
section
/-! FROM THE LAW'S ENTRY INTO THE SMALL MACHINE -/
def ma_h0 : AH := (fun _ _ _ => 0, fun _ _ _ => none, fun _ _ _ => 0, fun _ _ => 0, fun _ => 0)
abbrev mLaw : MD := (x, code, 7, some .boolean, [])
theorem ma_arrP {args : Array Value} {s : State} {ty : FieldType} (h : (Cond.arrayClass ty).before args s = true) (hp : ∀ C, ty ≠ .object C) : ∃ cA, ArrOfT s cA ty ∧ va_RA s cA ty := by
  obtain ⟨cA, k, comp, h1, h2, h3⟩ := Cond.arrayClass_spec h
  refine ⟨cA, fun n z => ⟨fun j h9 => (by cases h9), k, h2, comp, h3⟩, ?_⟩
  cases ty with
  | object C => exact absurd rfl (hp C)
  | _ => exact h1
theorem ma_arrO {args : Array Value} {s : State} {C : String} (h : (Cond.arrayOver (.object C)).before args s = true) : ∃ cA, ArrOfT s cA (.object C) ∧ va_RA s cA (.object C) := by
  obtain ⟨comp, cA, k, h1, -, h2, h3, h4⟩ := Cond.arrayOver_spec h
  exact ⟨cA, fun n z => ⟨fun j h9 => (by cases h9), k, h2, comp, h3⟩, k, comp, h2, h3, h1, h4⟩
set_option maxHeartbeats 2000000 in
theorem ma_top {p : Program} {l : Launch} {e : Env} {s : State} {m : MethodId} {below : List Frame} {meth : Method} {c : Code} {b L : Nat} {xs : Nat → Int32} {d bc bs : Nat} (hx : p.tables.exec = Jvm.exec) (hb : c.code = code) (hr : meth.sig.returnType = ret) (hml : c.maxLocals = 7) (hown : s.vm.findClass "DockBookLaw" = some m.cls) (hts : ∀ w ∈ lw_tbl, w.before #[Value.ref b] s = true) (hX : va_X b L xs s s.heap) (hbl : b < s.heap.size) (hlocks : meth.locks = false) (hgv : (Jvm.Cond.and given_1 narrow_1).before #[Value.ref b] s = true) (hfl : l.flags = flags0) (hex : c.exceptionTable.toList = []) (hnm : meth.name = "law")
    (G : Go (L, xs) true false d bc bs mLaw 0 [vO 99 0, vU, vU, vU, vU, vU, vU] [] ma_h0 (fun g _ => g = .inl (some (vI 1)))) (hd : d ≤ 1300) (hbc : bc ≤ 601024) (hbs : bs ≤ 7293034) :
    W p l e room_1 s m #[Value.ref b] below meth c s.heap [] 0 0 (fun t => ∃ o, t.status = .running ∧ Ended t below o ∧ o = .returned (some (.int 1)) ∧ Framed s o t [] 601024 7293034) (entryFrame m ([Value.ref b] : List Value).toArray 7) := by
  have hs := flat_of_before _ hgv
  have htT : ∀ w ∈ maT, w.before #[Value.ref b] s = true := fun w hw => hts w (List.mem_filter.mp hw).1
  have hNc : ∀ j k, 1 ≤ j → j ≤ 4 → 1 ≤ k → k ≤ 4 → j ≠ k → va_Nc (ma_en j) (ma_en k) s := by
    intro j k h1 h2 h3 h4 h5
    rcases (show j = 1 ∨ j = 2 ∨ j = 3 ∨ j = 4 by omega) with rfl | rfl | rfl | rfl <;> rcases (show k = 1 ∨ k = 2 ∨ k = 3 ∨ k = 4 by omega) with rfl | rfl | rfl | rfl <;> first | exact absurd rfl h5 | exact va_Nc.of (hs _ (by decide +kernel))
  have hmH : ∀ w ∈ maH, w.before #[Value.ref b] s = true := by
    intro w hw
    simp only [maH, List.mem_cons, List.not_mem_nil, or_false] at hw
    rcases hw with rfl | rfl | rfl | rfl
    · exact hts _ (by decide +kernel)
    · exact hts _ (by decide +kernel)
    · exact hs _ (by decide +kernel)
    · exact hs _ (by decide +kernel)
  obtain ⟨c0, i0, k0⟩ := u_known (C := RDo) (T := TDo) (N := 8) (n := 8) hts inDo (hts (.instantiable RDo 8) (by decide +kernel))
  obtain ⟨c1, i1, k1⟩ := u_known (C := RCh) (T := TCh) (N := 5) (n := 5) hts inCh (hts (.instantiable RCh 5) (by decide +kernel))
  obtain ⟨c2, i2, k2⟩ := u_known (C := ROr) (T := TOr) (N := 3) (n := 3) hts inOr (hts (.instantiable ROr 3) (by decide +kernel))
  obtain ⟨c3, i3, k3⟩ := u_known (C := RTr) (T := TTr) (N := 14) (n := 14) hts inTr (hts (.instantiable RTr 14) (by decide +kernel))
  obtain ⟨c4, i4, k4⟩ := u_known (C := RBk) (T := TBk) (N := 9) (n := 9) hts inBk (hts (.instantiable RBk 9) (by decide +kernel))
  obtain ⟨c5, i5, k5⟩ := u_known (C := RMo) (T := TMo) (N := 30) (n := 30) hts inMo (hts (.instantiable RMo 30) (by decide +kernel))
  obtain ⟨D, hKD⟩ : ∃ D : va_G, ∀ (k : Nat) (q : vw_C), maCl[k]? = some q → u_Kn s q.1 q.2.1 q.2.2 (D.1 k) (D.2 k) := by
    refine ⟨(fun k => if k = 0 then c0 else if k = 1 then c1 else if k = 2 then c2 else if k = 3 then c3 else if k = 4 then c4 else c5, fun k => if k = 0 then i0 else if k = 1 then i1 else if k = 2 then i2 else if k = 3 then i3 else if k = 4 then i4 else i5), ?_⟩
    intro k q hq
    match k, hq with
    | 0, hq => cases hq; exact k0
    | 1, hq => cases hq; exact k1
    | 2, hq => cases hq; exact k2
    | 3, hq => cases hq; exact k3
    | 4, hq => cases hq; exact k4
    | 5, hq => cases hq; exact k5
    | k + 6, hq => simp [maCl] at hq
  obtain ⟨a0, ha0⟩ := ma_arrP (hts (.arrayClass .int) (by decide +kernel)) (fun C h9 => by cases h9)
  obtain ⟨a1, ha1⟩ := ma_arrP (hts (.arrayClass .long) (by decide +kernel)) (fun C h9 => by cases h9)
  obtain ⟨a2, ha2⟩ := ma_arrP (hts (.arrayClass .boolean) (by decide +kernel)) (fun C h9 => by cases h9)
  obtain ⟨a3, ha3⟩ := ma_arrO (hts (.arrayOver (.object "DockBook$Door")) (by decide +kernel))
  obtain ⟨a4, ha4⟩ := ma_arrO (hts (.arrayOver (.object "DockBook$DoorOrders")) (by decide +kernel))
  obtain ⟨a5, ha5⟩ := ma_arrO (hts (.arrayOver (.object "DockBook$Truck")) (by decide +kernel))
  obtain ⟨aC, hKa⟩ : ∃ aC : Nat → ClassId, ∀ k ty, ma_ty k = some ty → ArrOfT s (aC k) ty ∧ va_RA s (aC k) ty := by
    refine ⟨fun k => if k = 100 then a0 else if k = 101 then a1 else if k = 102 then a2 else if k = 110 then a3 else if k = 112 then a4 else a5, ?_⟩
    intro k ty hk
    unfold ma_ty at hk
    split at hk <;> first | (cases hk; first | exact ha0 | exact ha1 | exact ha2 | exact ha3 | exact ha4 | exact ha5) | cases hk
  have hC : ma_Cx mLaw p l s m #[Value.ref b] meth c D aC := ⟨hx, hb, hml, hr, hown, htT, hlocks, hnm, hex, ⟨hKD, fun k q hq => by simp at hq⟩, hKa, hNc, hfl, hmH⟩
  have hHR : ma_HR D aC (fun q => s.heap.size ≤ q) (fun _ _ => b) ma_h0 s.heap := by
    refine ⟨[], fun x => ?_, List.nodup_nil, fun k q hq => by simp [ma_ws] at hq, ⟨fun i j q z hq => by simp [ma_ws] at hq, fun k q hq => by simp [ma_ws] at hq⟩, fun _ _ _ => rfl, fun k i j r hi => absurd hi (Nat.not_lt_zero _), fun _ _ _ _ => ⟨rfl, rfl, rfl⟩⟩
    constructor
    · intro h9; cases h9
    · intro h9; exact absurd h9 (Nat.not_lt_zero _)
  have hAs : ma_SR (fun _ _ => b) (ma_n ma_h0) [vO 99 0] [Value.ref b] := ⟨_, _, rfl, Or.inr (Or.inl ⟨rfl, rfl⟩), rfl⟩
  have hLR := ma_LR_entry (N := 7) hAs (fun v hv => by rcases List.mem_singleton.mp hv with rfl; exact trivial) (by decide)
  have w := G p l e room_1 s m #[Value.ref b] below meth c s.heap [] 0 0 601024 7293034 D aC (fun q => s.heap.size ≤ q) (fun _ _ => b) (fun _ _ => b) (fun _ => 0) _ [] hC
    ⟨⟨by show d ≤ 2048; omega, by show 64 * d ≤ 84000; omega, by omega, by omega, Nat.le_refl _, Nat.le_refl _⟩, hHR, ⟨hX, Nat.not_le.mpr hbl, hbl, fun q cell hq hc => by
      have := (Array.getElem?_eq_some_iff.mp hc).1
      omega⟩, va_S.rf, fun _ h9 => h9, ⟨fun k i h9 => absurd h9 (Nat.not_lt_zero _), rfl⟩, hLR, rfl, fun _ => ⟨rfl, hHR⟩⟩
  rw [lg_entry_eq]
  refine ma_W_mono ?_ w
  rintro t ⟨o, h1, h2, h3, ⟨L9, h4, h5, -⟩, -, g, h', ad', h6, h7, -⟩
  subst h6
  obtain ⟨v, rfl, rfl⟩ := h7
  exact ⟨_, h1, h2, rfl, ⟨_, rfl⟩, h3, h4.weaken (fun z hz hlt => absurd hlt (Nat.not_lt.mpr (h5 z hz))) (Nat.le_refl _) (Nat.le_refl _)⟩
end
section
abbrev cBk_init : ByteArray := prog_1_method_1_code
abbrev mBk_init : MD := (⟨"DockBook", "<init>", "()V"⟩, cBk_init, 2, none, [])
theorem dBk_init_0 : decode cBk_init 0 = .ok (.aload_n 0, 1) := by decide +kernel
theorem dBk_init_1 : decode cBk_init 1 = .ok (.invokespecial 3, 3) := by decide +kernel
theorem dBk_init_4 : decode cBk_init 4 = .ok (.aload_n 0, 1) := by decide +kernel
theorem dBk_init_5 : decode cBk_init 5 = .ok (.iconst 4, 1) := by decide +kernel
theorem dBk_init_6 : decode cBk_init 6 = .ok (.anewarray 9, 3) := by decide +kernel
theorem dBk_init_9 : decode cBk_init 9 = .ok (.putfield 11, 3) := by decide +kernel
theorem dBk_init_12 : decode cBk_init 12 = .ok (.aload_n 0, 1) := by decide +kernel
theorem dBk_init_13 : decode cBk_init 13 = .ok (.bipush 12, 2) := by decide +kernel
theorem dBk_init_15 : decode cBk_init 15 = .ok (.anewarray 15, 3) := by decide +kernel
theorem dBk_init_18 : decode cBk_init 18 = .ok (.putfield 17, 3) := by decide +kernel
theorem dBk_init_21 : decode cBk_init 21 = .ok (.aload_n 0, 1) := by decide +kernel
theorem dBk_init_22 : decode cBk_init 22 = .ok (.bipush 12, 2) := by decide +kernel
theorem dBk_init_24 : decode cBk_init 24 = .ok (.anewarray 15, 3) := by decide +kernel
theorem dBk_init_27 : decode cBk_init 27 = .ok (.putfield 21, 3) := by decide +kernel
theorem dBk_init_30 : decode cBk_init 30 = .ok (.aload_n 0, 1) := by decide +kernel
theorem dBk_init_31 : decode cBk_init 31 = .ok (.new 24, 3) := by decide +kernel
theorem dBk_init_34 : decode cBk_init 34 = .ok (.dup, 1) := by decide +kernel
theorem dBk_init_35 : decode cBk_init 35 = .ok (.invokespecial 26, 3) := by decide +kernel
theorem dBk_init_38 : decode cBk_init 38 = .ok (.putfield 27, 3) := by decide +kernel
theorem dBk_init_41 : decode cBk_init 41 = .ok (.aload_n 0, 1) := by decide +kernel
theorem dBk_init_42 : decode cBk_init 42 = .ok (.iconst 0, 1) := by decide +kernel
theorem dBk_init_43 : decode cBk_init 43 = .ok (.putfield 31, 3) := by decide +kernel
theorem dBk_init_46 : decode cBk_init 46 = .ok (.aload_n 0, 1) := by decide +kernel
theorem dBk_init_47 : decode cBk_init 47 = .ok (.iconst 0, 1) := by decide +kernel
theorem dBk_init_48 : decode cBk_init 48 = .ok (.putfield 35, 3) := by decide +kernel
theorem dBk_init_51 : decode cBk_init 51 = .ok (.aload_n 0, 1) := by decide +kernel
theorem dBk_init_52 : decode cBk_init 52 = .ok (.iconst 0, 1) := by decide +kernel
theorem dBk_init_53 : decode cBk_init 53 = .ok (.putfield 38, 3) := by decide +kernel
theorem dBk_init_56 : decode cBk_init 56 = .ok (.aload_n 0, 1) := by decide +kernel
theorem dBk_init_57 : decode cBk_init 57 = .ok (.iconst 0, 1) := by decide +kernel
theorem dBk_init_58 : decode cBk_init 58 = .ok (.putfield 41, 3) := by decide +kernel
theorem dBk_init_61 : decode cBk_init 61 = .ok (.aload_n 0, 1) := by decide +kernel
theorem dBk_init_62 : decode cBk_init 62 = .ok (.iconst 0, 1) := by decide +kernel
theorem dBk_init_63 : decode cBk_init 63 = .ok (.putfield 45, 3) := by decide +kernel
theorem dBk_init_66 : decode cBk_init 66 = .ok (.iconst 0, 1) := by decide +kernel
theorem dBk_init_67 : decode cBk_init 67 = .ok (.istore_n 1, 1) := by decide +kernel
theorem dBk_init_68 : decode cBk_init 68 = .ok (.iload_n 1, 1) := by decide +kernel
theorem dBk_init_69 : decode cBk_init 69 = .ok (.iconst 4, 1) := by decide +kernel
theorem dBk_init_70 : decode cBk_init 70 = .ok (.if_icmp .ge 22, 3) := by decide +kernel
theorem dBk_init_73 : decode cBk_init 73 = .ok (.aload_n 0, 1) := by decide +kernel
theorem dBk_init_74 : decode cBk_init 74 = .ok (.getfield 11, 3) := by decide +kernel
theorem dBk_init_77 : decode cBk_init 77 = .ok (.iload_n 1, 1) := by decide +kernel
theorem dBk_init_78 : decode cBk_init 78 = .ok (.new 9, 3) := by decide +kernel
theorem dBk_init_81 : decode cBk_init 81 = .ok (.dup, 1) := by decide +kernel
theorem dBk_init_82 : decode cBk_init 82 = .ok (.invokespecial 48, 3) := by decide +kernel
theorem dBk_init_85 : decode cBk_init 85 = .ok (.aastore, 1) := by decide +kernel
theorem dBk_init_86 : decode cBk_init 86 = .ok (.iinc 1 1, 3) := by decide +kernel
theorem dBk_init_89 : decode cBk_init 89 = .ok (.goto (-21), 3) := by decide +kernel
theorem dBk_init_92 : decode cBk_init 92 = .ok (.iconst 0, 1) := by decide +kernel
theorem dBk_init_93 : decode cBk_init 93 = .ok (.istore_n 1, 1) := by decide +kernel
theorem dBk_init_94 : decode cBk_init 94 = .ok (.iload_n 1, 1) := by decide +kernel
theorem dBk_init_95 : decode cBk_init 95 = .ok (.bipush 12, 2) := by decide +kernel
theorem dBk_init_97 : decode cBk_init 97 = .ok (.if_icmp .ge 35, 3) := by decide +kernel
theorem dBk_init_100 : decode cBk_init 100 = .ok (.aload_n 0, 1) := by decide +kernel
theorem dBk_init_101 : decode cBk_init 101 = .ok (.getfield 17, 3) := by decide +kernel
theorem dBk_init_104 : decode cBk_init 104 = .ok (.iload_n 1, 1) := by decide +kernel
theorem dBk_init_105 : decode cBk_init 105 = .ok (.new 15, 3) := by decide +kernel
theorem dBk_init_108 : decode cBk_init 108 = .ok (.dup, 1) := by decide +kernel
theorem dBk_init_109 : decode cBk_init 109 = .ok (.iload_n 1, 1) := by decide +kernel
theorem dBk_init_110 : decode cBk_init 110 = .ok (.invokespecial 49, 3) := by decide +kernel
theorem dBk_init_113 : decode cBk_init 113 = .ok (.aastore, 1) := by decide +kernel
theorem dBk_init_114 : decode cBk_init 114 = .ok (.aload_n 0, 1) := by decide +kernel
theorem dBk_init_115 : decode cBk_init 115 = .ok (.getfield 21, 3) := by decide +kernel
theorem dBk_init_118 : decode cBk_init 118 = .ok (.iload_n 1, 1) := by decide +kernel
theorem dBk_init_119 : decode cBk_init 119 = .ok (.aload_n 0, 1) := by decide +kernel
theorem dBk_init_120 : decode cBk_init 120 = .ok (.getfield 17, 3) := by decide +kernel
theorem dBk_init_123 : decode cBk_init 123 = .ok (.iload_n 1, 1) := by decide +kernel
theorem dBk_init_124 : decode cBk_init 124 = .ok (.aaload, 1) := by decide +kernel
theorem dBk_init_125 : decode cBk_init 125 = .ok (.aastore, 1) := by decide +kernel
theorem dBk_init_126 : decode cBk_init 126 = .ok (.iinc 1 1, 3) := by decide +kernel
theorem dBk_init_129 : decode cBk_init 129 = .ok (.goto (-35), 3) := by decide +kernel
theorem dBk_init_132 : decode cBk_init 132 = .ok (.return_, 1) := by decide +kernel
abbrev cBk_door : ByteArray := prog_1_method_2_code
abbrev mBk_door : MD := (⟨"DockBook", "door", "(III)I"⟩, cBk_door, 5, some (.int), [])
theorem dBk_door_0 : decode cBk_door 0 = .ok (.iload_n 1, 1) := by decide +kernel
theorem dBk_door_1 : decode cBk_door 1 = .ok (.iconst 1, 1) := by decide +kernel
theorem dBk_door_2 : decode cBk_door 2 = .ok (.sipush 255, 3) := by decide +kernel
theorem dBk_door_5 : decode cBk_door 5 = .ok (.invokestatic 52, 3) := by decide +kernel
theorem dBk_door_8 : decode cBk_door 8 = .ok (.iload_n 2, 1) := by decide +kernel
theorem dBk_door_9 : decode cBk_door 9 = .ok (.iconst 0, 1) := by decide +kernel
theorem dBk_door_10 : decode cBk_door 10 = .ok (.sipush 2000, 3) := by decide +kernel
theorem dBk_door_13 : decode cBk_door 13 = .ok (.invokestatic 52, 3) := by decide +kernel
theorem dBk_door_16 : decode cBk_door 16 = .ok (.iload_n 3, 1) := by decide +kernel
theorem dBk_door_17 : decode cBk_door 17 = .ok (.iload_n 2, 1) := by decide +kernel
theorem dBk_door_18 : decode cBk_door 18 = .ok (.iconst 1, 1) := by decide +kernel
theorem dBk_door_19 : decode cBk_door 19 = .ok (.iadd, 1) := by decide +kernel
theorem dBk_door_20 : decode cBk_door 20 = .ok (.sipush 2000, 3) := by decide +kernel
theorem dBk_door_23 : decode cBk_door 23 = .ok (.invokestatic 52, 3) := by decide +kernel
theorem dBk_door_26 : decode cBk_door 26 = .ok (.aload_n 0, 1) := by decide +kernel
theorem dBk_door_27 : decode cBk_door 27 = .ok (.getfield 31, 3) := by decide +kernel
theorem dBk_door_30 : decode cBk_door 30 = .ok (.iconst 4, 1) := by decide +kernel
theorem dBk_door_31 : decode cBk_door 31 = .ok (.if_icmp .lt 13, 3) := by decide +kernel
theorem dBk_door_34 : decode cBk_door 34 = .ok (.new 56, 3) := by decide +kernel
theorem dBk_door_37 : decode cBk_door 37 = .ok (.dup, 1) := by decide +kernel
theorem dBk_door_38 : decode cBk_door 38 = .ok (.ldc 58, 2) := by decide +kernel
theorem dBk_door_40 : decode cBk_door 40 = .ok (.invokespecial 60, 3) := by decide +kernel
theorem dBk_door_43 : decode cBk_door 43 = .ok (.athrow, 1) := by decide +kernel
theorem dBk_door_44 : decode cBk_door 44 = .ok (.aload_n 0, 1) := by decide +kernel
theorem dBk_door_45 : decode cBk_door 45 = .ok (.getfield 11, 3) := by decide +kernel
theorem dBk_door_48 : decode cBk_door 48 = .ok (.aload_n 0, 1) := by decide +kernel
theorem dBk_door_49 : decode cBk_door 49 = .ok (.getfield 31, 3) := by decide +kernel
theorem dBk_door_52 : decode cBk_door 52 = .ok (.aaload, 1) := by decide +kernel
theorem dBk_door_53 : decode cBk_door 53 = .ok (.astore 4, 2) := by decide +kernel
theorem dBk_door_55 : decode cBk_door 55 = .ok (.aload 4, 2) := by decide +kernel
theorem dBk_door_57 : decode cBk_door 57 = .ok (.iload_n 1, 1) := by decide +kernel
theorem dBk_door_58 : decode cBk_door 58 = .ok (.putfield 63, 3) := by decide +kernel
theorem dBk_door_61 : decode cBk_door 61 = .ok (.aload 4, 2) := by decide +kernel
theorem dBk_door_63 : decode cBk_door 63 = .ok (.iload_n 2, 1) := by decide +kernel
theorem dBk_door_64 : decode cBk_door 64 = .ok (.putfield 66, 3) := by decide +kernel
theorem dBk_door_67 : decode cBk_door 67 = .ok (.aload 4, 2) := by decide +kernel
theorem dBk_door_69 : decode cBk_door 69 = .ok (.iload_n 3, 1) := by decide +kernel
theorem dBk_door_70 : decode cBk_door 70 = .ok (.putfield 69, 3) := by decide +kernel
theorem dBk_door_73 : decode cBk_door 73 = .ok (.aload_n 0, 1) := by decide +kernel
theorem dBk_door_74 : decode cBk_door 74 = .ok (.dup, 1) := by decide +kernel
theorem dBk_door_75 : decode cBk_door 75 = .ok (.getfield 31, 3) := by decide +kernel
theorem dBk_door_78 : decode cBk_door 78 = .ok (.iconst 1, 1) := by decide +kernel
theorem dBk_door_79 : decode cBk_door 79 = .ok (.iadd, 1) := by decide +kernel
theorem dBk_door_80 : decode cBk_door 80 = .ok (.putfield 31, 3) := by decide +kernel
theorem dBk_door_83 : decode cBk_door 83 = .ok (.aload_n 0, 1) := by decide +kernel
theorem dBk_door_84 : decode cBk_door 84 = .ok (.getfield 31, 3) := by decide +kernel
theorem dBk_door_87 : decode cBk_door 87 = .ok (.iconst 1, 1) := by decide +kernel
theorem dBk_door_88 : decode cBk_door 88 = .ok (.isub, 1) := by decide +kernel
theorem dBk_door_89 : decode cBk_door 89 = .ok (.ireturn, 1) := by decide +kernel
abbrev cBk_truck : ByteArray := prog_1_method_3_code
abbrev mBk_truck : MD := (⟨"DockBook", "truck", "(IIII)I"⟩, cBk_truck, 6, some (.int), [])
theorem dBk_truck_0 : decode cBk_truck 0 = .ok (.iload_n 1, 1) := by decide +kernel
theorem dBk_truck_1 : decode cBk_truck 1 = .ok (.iconst 0, 1) := by decide +kernel
theorem dBk_truck_2 : decode cBk_truck 2 = .ok (.bipush 7, 2) := by decide +kernel
theorem dBk_truck_4 : decode cBk_truck 4 = .ok (.invokestatic 52, 3) := by decide +kernel
theorem dBk_truck_7 : decode cBk_truck 7 = .ok (.iload_n 2, 1) := by decide +kernel
theorem dBk_truck_8 : decode cBk_truck 8 = .ok (.iconst 0, 1) := by decide +kernel
theorem dBk_truck_9 : decode cBk_truck 9 = .ok (.sipush 2000, 3) := by decide +kernel
theorem dBk_truck_12 : decode cBk_truck 12 = .ok (.invokestatic 52, 3) := by decide +kernel
theorem dBk_truck_15 : decode cBk_truck 15 = .ok (.iload_n 3, 1) := by decide +kernel
theorem dBk_truck_16 : decode cBk_truck 16 = .ok (.iconst 1, 1) := by decide +kernel
theorem dBk_truck_17 : decode cBk_truck 17 = .ok (.sipush 300, 3) := by decide +kernel
theorem dBk_truck_20 : decode cBk_truck 20 = .ok (.invokestatic 52, 3) := by decide +kernel
theorem dBk_truck_23 : decode cBk_truck 23 = .ok (.iload 4, 2) := by decide +kernel
theorem dBk_truck_25 : decode cBk_truck 25 = .ok (.iconst 1, 1) := by decide +kernel
theorem dBk_truck_26 : decode cBk_truck 26 = .ok (.bipush 9, 2) := by decide +kernel
theorem dBk_truck_28 : decode cBk_truck 28 = .ok (.invokestatic 52, 3) := by decide +kernel
theorem dBk_truck_31 : decode cBk_truck 31 = .ok (.aload_n 0, 1) := by decide +kernel
theorem dBk_truck_32 : decode cBk_truck 32 = .ok (.getfield 35, 3) := by decide +kernel
theorem dBk_truck_35 : decode cBk_truck 35 = .ok (.bipush 12, 2) := by decide +kernel
theorem dBk_truck_37 : decode cBk_truck 37 = .ok (.if_icmp .lt 13, 3) := by decide +kernel
theorem dBk_truck_40 : decode cBk_truck 40 = .ok (.new 56, 3) := by decide +kernel
theorem dBk_truck_43 : decode cBk_truck 43 = .ok (.dup, 1) := by decide +kernel
theorem dBk_truck_44 : decode cBk_truck 44 = .ok (.ldc 72, 2) := by decide +kernel
theorem dBk_truck_46 : decode cBk_truck 46 = .ok (.invokespecial 60, 3) := by decide +kernel
theorem dBk_truck_49 : decode cBk_truck 49 = .ok (.athrow, 1) := by decide +kernel
theorem dBk_truck_50 : decode cBk_truck 50 = .ok (.aload_n 0, 1) := by decide +kernel
theorem dBk_truck_51 : decode cBk_truck 51 = .ok (.getfield 17, 3) := by decide +kernel
theorem dBk_truck_54 : decode cBk_truck 54 = .ok (.aload_n 0, 1) := by decide +kernel
theorem dBk_truck_55 : decode cBk_truck 55 = .ok (.getfield 35, 3) := by decide +kernel
theorem dBk_truck_58 : decode cBk_truck 58 = .ok (.aaload, 1) := by decide +kernel
theorem dBk_truck_59 : decode cBk_truck 59 = .ok (.astore 5, 2) := by decide +kernel
theorem dBk_truck_61 : decode cBk_truck 61 = .ok (.aload 5, 2) := by decide +kernel
theorem dBk_truck_63 : decode cBk_truck 63 = .ok (.iload_n 1, 1) := by decide +kernel
theorem dBk_truck_64 : decode cBk_truck 64 = .ok (.putfield 74, 3) := by decide +kernel
theorem dBk_truck_67 : decode cBk_truck 67 = .ok (.aload 5, 2) := by decide +kernel
theorem dBk_truck_69 : decode cBk_truck 69 = .ok (.iload_n 2, 1) := by decide +kernel
theorem dBk_truck_70 : decode cBk_truck 70 = .ok (.putfield 77, 3) := by decide +kernel
theorem dBk_truck_73 : decode cBk_truck 73 = .ok (.aload 5, 2) := by decide +kernel
theorem dBk_truck_75 : decode cBk_truck 75 = .ok (.iload_n 3, 1) := by decide +kernel
theorem dBk_truck_76 : decode cBk_truck 76 = .ok (.putfield 80, 3) := by decide +kernel
theorem dBk_truck_79 : decode cBk_truck 79 = .ok (.aload 5, 2) := by decide +kernel
theorem dBk_truck_81 : decode cBk_truck 81 = .ok (.iload 4, 2) := by decide +kernel
theorem dBk_truck_83 : decode cBk_truck 83 = .ok (.putfield 83, 3) := by decide +kernel
theorem dBk_truck_86 : decode cBk_truck 86 = .ok (.aload_n 0, 1) := by decide +kernel
theorem dBk_truck_87 : decode cBk_truck 87 = .ok (.dup, 1) := by decide +kernel
theorem dBk_truck_88 : decode cBk_truck 88 = .ok (.getfield 35, 3) := by decide +kernel
theorem dBk_truck_91 : decode cBk_truck 91 = .ok (.iconst 1, 1) := by decide +kernel
theorem dBk_truck_92 : decode cBk_truck 92 = .ok (.iadd, 1) := by decide +kernel
theorem dBk_truck_93 : decode cBk_truck 93 = .ok (.putfield 35, 3) := by decide +kernel
theorem dBk_truck_96 : decode cBk_truck 96 = .ok (.aload_n 0, 1) := by decide +kernel
theorem dBk_truck_97 : decode cBk_truck 97 = .ok (.getfield 35, 3) := by decide +kernel
theorem dBk_truck_100 : decode cBk_truck 100 = .ok (.iconst 1, 1) := by decide +kernel
theorem dBk_truck_101 : decode cBk_truck 101 = .ok (.isub, 1) := by decide +kernel
theorem dBk_truck_102 : decode cBk_truck 102 = .ok (.ireturn, 1) := by decide +kernel
abbrev cBk_assign : ByteArray := prog_1_method_4_code
abbrev mBk_assign : MD := (⟨"DockBook", "assign", "(I)I"⟩, cBk_assign, 4, some (.int), [])
theorem dBk_assign_0 : decode cBk_assign 0 = .ok (.iload_n 1, 1) := by decide +kernel
theorem dBk_assign_1 : decode cBk_assign 1 = .ok (.iconst 0, 1) := by decide +kernel
theorem dBk_assign_2 : decode cBk_assign 2 = .ok (.iconst 5, 1) := by decide +kernel
theorem dBk_assign_3 : decode cBk_assign 3 = .ok (.invokestatic 52, 3) := by decide +kernel
theorem dBk_assign_6 : decode cBk_assign 6 = .ok (.aload_n 0, 1) := by decide +kernel
theorem dBk_assign_7 : decode cBk_assign 7 = .ok (.invokevirtual 86, 3) := by decide +kernel
theorem dBk_assign_10 : decode cBk_assign 10 = .ok (.istore_n 2, 1) := by decide +kernel
theorem dBk_assign_11 : decode cBk_assign 11 = .ok (.iconst 0, 1) := by decide +kernel
theorem dBk_assign_12 : decode cBk_assign 12 = .ok (.istore_n 3, 1) := by decide +kernel
theorem dBk_assign_13 : decode cBk_assign 13 = .ok (.iload_n 3, 1) := by decide +kernel
theorem dBk_assign_14 : decode cBk_assign 14 = .ok (.iload_n 2, 1) := by decide +kernel
theorem dBk_assign_15 : decode cBk_assign 15 = .ok (.if_icmp .ge 18, 3) := by decide +kernel
theorem dBk_assign_18 : decode cBk_assign 18 = .ok (.aload_n 0, 1) := by decide +kernel
theorem dBk_assign_19 : decode cBk_assign 19 = .ok (.getfield 21, 3) := by decide +kernel
theorem dBk_assign_22 : decode cBk_assign 22 = .ok (.iload_n 3, 1) := by decide +kernel
theorem dBk_assign_23 : decode cBk_assign 23 = .ok (.aaload, 1) := by decide +kernel
theorem dBk_assign_24 : decode cBk_assign 24 = .ok (.invokevirtual 90, 3) := by decide +kernel
theorem dBk_assign_27 : decode cBk_assign 27 = .ok (.iinc 3 1, 3) := by decide +kernel
theorem dBk_assign_30 : decode cBk_assign 30 = .ok (.goto (-17), 3) := by decide +kernel
theorem dBk_assign_33 : decode cBk_assign 33 = .ok (.aload_n 0, 1) := by decide +kernel
theorem dBk_assign_34 : decode cBk_assign 34 = .ok (.iload_n 2, 1) := by decide +kernel
theorem dBk_assign_35 : decode cBk_assign 35 = .ok (.iload_n 1, 1) := by decide +kernel
theorem dBk_assign_36 : decode cBk_assign 36 = .ok (.if_icmp .gt 7, 3) := by decide +kernel
theorem dBk_assign_39 : decode cBk_assign 39 = .ok (.iconst 1, 1) := by decide +kernel
theorem dBk_assign_40 : decode cBk_assign 40 = .ok (.goto 4, 3) := by decide +kernel
theorem dBk_assign_43 : decode cBk_assign 43 = .ok (.iconst 0, 1) := by decide +kernel
theorem dBk_assign_44 : decode cBk_assign 44 = .ok (.putfield 41, 3) := by decide +kernel
theorem dBk_assign_47 : decode cBk_assign 47 = .ok (.aload_n 0, 1) := by decide +kernel
theorem dBk_assign_48 : decode cBk_assign 48 = .ok (.getfield 41, 3) := by decide +kernel
theorem dBk_assign_51 : decode cBk_assign 51 = .ok (.ifCond .eq 30, 3) := by decide +kernel
theorem dBk_assign_54 : decode cBk_assign 54 = .ok (.aload_n 0, 1) := by decide +kernel
theorem dBk_assign_55 : decode cBk_assign 55 = .ok (.getfield 27, 3) := by decide +kernel
theorem dBk_assign_58 : decode cBk_assign 58 = .ok (.aload_n 0, 1) := by decide +kernel
theorem dBk_assign_59 : decode cBk_assign 59 = .ok (.getfield 11, 3) := by decide +kernel
theorem dBk_assign_62 : decode cBk_assign 62 = .ok (.aload_n 0, 1) := by decide +kernel
theorem dBk_assign_63 : decode cBk_assign 63 = .ok (.getfield 31, 3) := by decide +kernel
theorem dBk_assign_66 : decode cBk_assign 66 = .ok (.aload_n 0, 1) := by decide +kernel
theorem dBk_assign_67 : decode cBk_assign 67 = .ok (.getfield 21, 3) := by decide +kernel
theorem dBk_assign_70 : decode cBk_assign 70 = .ok (.iload_n 2, 1) := by decide +kernel
theorem dBk_assign_71 : decode cBk_assign 71 = .ok (.aload_n 0, 1) := by decide +kernel
theorem dBk_assign_72 : decode cBk_assign 72 = .ok (.getfield 38, 3) := by decide +kernel
theorem dBk_assign_75 : decode cBk_assign 75 = .ok (.invokevirtual 93, 3) := by decide +kernel
theorem dBk_assign_78 : decode cBk_assign 78 = .ok (.goto 8, 3) := by decide +kernel
theorem dBk_assign_81 : decode cBk_assign 81 = .ok (.aload_n 0, 1) := by decide +kernel
theorem dBk_assign_82 : decode cBk_assign 82 = .ok (.iload_n 2, 1) := by decide +kernel
theorem dBk_assign_83 : decode cBk_assign 83 = .ok (.invokevirtual 97, 3) := by decide +kernel
theorem dBk_assign_86 : decode cBk_assign 86 = .ok (.aload_n 0, 1) := by decide +kernel
theorem dBk_assign_87 : decode cBk_assign 87 = .ok (.iconst 0, 1) := by decide +kernel
theorem dBk_assign_88 : decode cBk_assign 88 = .ok (.putfield 45, 3) := by decide +kernel
theorem dBk_assign_91 : decode cBk_assign 91 = .ok (.iconst 0, 1) := by decide +kernel
theorem dBk_assign_92 : decode cBk_assign 92 = .ok (.istore_n 3, 1) := by decide +kernel
theorem dBk_assign_93 : decode cBk_assign 93 = .ok (.iload_n 3, 1) := by decide +kernel
theorem dBk_assign_94 : decode cBk_assign 94 = .ok (.iload_n 2, 1) := by decide +kernel
theorem dBk_assign_95 : decode cBk_assign 95 = .ok (.if_icmp .ge 35, 3) := by decide +kernel
theorem dBk_assign_98 : decode cBk_assign 98 = .ok (.aload_n 0, 1) := by decide +kernel
theorem dBk_assign_99 : decode cBk_assign 99 = .ok (.dup, 1) := by decide +kernel
theorem dBk_assign_100 : decode cBk_assign 100 = .ok (.getfield 45, 3) := by decide +kernel
theorem dBk_assign_103 : decode cBk_assign 103 = .ok (.aload_n 0, 1) := by decide +kernel
theorem dBk_assign_104 : decode cBk_assign 104 = .ok (.getfield 21, 3) := by decide +kernel
theorem dBk_assign_107 : decode cBk_assign 107 = .ok (.iload_n 3, 1) := by decide +kernel
theorem dBk_assign_108 : decode cBk_assign 108 = .ok (.aaload, 1) := by decide +kernel
theorem dBk_assign_109 : decode cBk_assign 109 = .ok (.invokevirtual 100, 3) := by decide +kernel
theorem dBk_assign_112 : decode cBk_assign 112 = .ok (.ifCond .eq 7, 3) := by decide +kernel
theorem dBk_assign_115 : decode cBk_assign 115 = .ok (.iconst 1, 1) := by decide +kernel
theorem dBk_assign_116 : decode cBk_assign 116 = .ok (.goto 4, 3) := by decide +kernel
theorem dBk_assign_119 : decode cBk_assign 119 = .ok (.iconst 0, 1) := by decide +kernel
theorem dBk_assign_120 : decode cBk_assign 120 = .ok (.iadd, 1) := by decide +kernel
theorem dBk_assign_121 : decode cBk_assign 121 = .ok (.putfield 45, 3) := by decide +kernel
theorem dBk_assign_124 : decode cBk_assign 124 = .ok (.iinc 3 1, 3) := by decide +kernel
theorem dBk_assign_127 : decode cBk_assign 127 = .ok (.goto (-34), 3) := by decide +kernel
theorem dBk_assign_130 : decode cBk_assign 130 = .ok (.aload_n 0, 1) := by decide +kernel
theorem dBk_assign_131 : decode cBk_assign 131 = .ok (.invokevirtual 104, 3) := by decide +kernel
theorem dBk_assign_134 : decode cBk_assign 134 = .ok (.ireturn, 1) := by decide +kernel
abbrev cBk_exact : ByteArray := prog_1_method_5_code
abbrev mBk_exact : MD := (⟨"DockBook", "exact", "()Z"⟩, cBk_exact, 1, some (.boolean), [])
theorem dBk_exact_0 : decode cBk_exact 0 = .ok (.aload_n 0, 1) := by decide +kernel
theorem dBk_exact_1 : decode cBk_exact 1 = .ok (.getfield 41, 3) := by decide +kernel
theorem dBk_exact_4 : decode cBk_exact 4 = .ok (.ireturn, 1) := by decide +kernel
abbrev cBk_moved : ByteArray := prog_1_method_6_code
abbrev mBk_moved : MD := (⟨"DockBook", "moved", "()I"⟩, cBk_moved, 1, some (.int), [])
theorem dBk_moved_0 : decode cBk_moved 0 = .ok (.aload_n 0, 1) := by decide +kernel
theorem dBk_moved_1 : decode cBk_moved 1 = .ok (.getfield 45, 3) := by decide +kernel
theorem dBk_moved_4 : decode cBk_moved 4 = .ok (.ireturn, 1) := by decide +kernel
abbrev cBk_bound : ByteArray := prog_1_method_7_code
abbrev mBk_bound : MD := (⟨"DockBook", "bound", "()I"⟩, cBk_bound, 3, some (.int), [])
theorem dBk_bound_0 : decode cBk_bound 0 = .ok (.iconst 0, 1) := by decide +kernel
theorem dBk_bound_1 : decode cBk_bound 1 = .ok (.istore_n 1, 1) := by decide +kernel
theorem dBk_bound_2 : decode cBk_bound 2 = .ok (.iconst 0, 1) := by decide +kernel
theorem dBk_bound_3 : decode cBk_bound 3 = .ok (.istore_n 2, 1) := by decide +kernel
theorem dBk_bound_4 : decode cBk_bound 4 = .ok (.iload_n 2, 1) := by decide +kernel
theorem dBk_bound_5 : decode cBk_bound 5 = .ok (.aload_n 0, 1) := by decide +kernel
theorem dBk_bound_6 : decode cBk_bound 6 = .ok (.getfield 35, 3) := by decide +kernel
theorem dBk_bound_9 : decode cBk_bound 9 = .ok (.if_icmp .ge 34, 3) := by decide +kernel
theorem dBk_bound_12 : decode cBk_bound 12 = .ok (.aload_n 0, 1) := by decide +kernel
theorem dBk_bound_13 : decode cBk_bound 13 = .ok (.getfield 17, 3) := by decide +kernel
theorem dBk_bound_16 : decode cBk_bound 16 = .ok (.iload_n 2, 1) := by decide +kernel
theorem dBk_bound_17 : decode cBk_bound 17 = .ok (.aaload, 1) := by decide +kernel
theorem dBk_bound_18 : decode cBk_bound 18 = .ok (.getfield 107, 3) := by decide +kernel
theorem dBk_bound_21 : decode cBk_bound 21 = .ok (.ifCond .ne 16, 3) := by decide +kernel
theorem dBk_bound_24 : decode cBk_bound 24 = .ok (.iload_n 1, 1) := by decide +kernel
theorem dBk_bound_25 : decode cBk_bound 25 = .ok (.aload_n 0, 1) := by decide +kernel
theorem dBk_bound_26 : decode cBk_bound 26 = .ok (.aload_n 0, 1) := by decide +kernel
theorem dBk_bound_27 : decode cBk_bound 27 = .ok (.getfield 17, 3) := by decide +kernel
theorem dBk_bound_30 : decode cBk_bound 30 = .ok (.iload_n 2, 1) := by decide +kernel
theorem dBk_bound_31 : decode cBk_bound 31 = .ok (.aaload, 1) := by decide +kernel
theorem dBk_bound_32 : decode cBk_bound 32 = .ok (.invokevirtual 110, 3) := by decide +kernel
theorem dBk_bound_35 : decode cBk_bound 35 = .ok (.iadd, 1) := by decide +kernel
theorem dBk_bound_36 : decode cBk_bound 36 = .ok (.istore_n 1, 1) := by decide +kernel
theorem dBk_bound_37 : decode cBk_bound 37 = .ok (.iinc 2 1, 3) := by decide +kernel
theorem dBk_bound_40 : decode cBk_bound 40 = .ok (.goto (-36), 3) := by decide +kernel
theorem dBk_bound_43 : decode cBk_bound 43 = .ok (.iload_n 1, 1) := by decide +kernel
theorem dBk_bound_44 : decode cBk_bound 44 = .ok (.ireturn, 1) := by decide +kernel
abbrev cBk_call : ByteArray := prog_1_method_8_code
abbrev mBk_call : MD := (⟨"DockBook", "call", "(I)V"⟩, cBk_call, 4, none, [])
theorem dBk_call_0 : decode cBk_call 0 = .ok (.aload_n 0, 1) := by decide +kernel
theorem dBk_call_1 : decode cBk_call 1 = .ok (.iload_n 1, 1) := by decide +kernel
theorem dBk_call_2 : decode cBk_call 2 = .ok (.invokevirtual 114, 3) := by decide +kernel
theorem dBk_call_5 : decode cBk_call 5 = .ok (.astore_n 2, 1) := by decide +kernel
theorem dBk_call_6 : decode cBk_call 6 = .ok (.aload_n 0, 1) := by decide +kernel
theorem dBk_call_7 : decode cBk_call 7 = .ok (.aload_n 2, 1) := by decide +kernel
theorem dBk_call_8 : decode cBk_call 8 = .ok (.invokevirtual 118, 3) := by decide +kernel
theorem dBk_call_11 : decode cBk_call 11 = .ok (.ifCond .ne 13, 3) := by decide +kernel
theorem dBk_call_14 : decode cBk_call 14 = .ok (.new 122, 3) := by decide +kernel
theorem dBk_call_17 : decode cBk_call 17 = .ok (.dup, 1) := by decide +kernel
theorem dBk_call_18 : decode cBk_call 18 = .ok (.ldc 124, 2) := by decide +kernel
theorem dBk_call_20 : decode cBk_call 20 = .ok (.invokespecial 126, 3) := by decide +kernel
theorem dBk_call_23 : decode cBk_call 23 = .ok (.athrow, 1) := by decide +kernel
theorem dBk_call_24 : decode cBk_call 24 = .ok (.aload_n 0, 1) := by decide +kernel
theorem dBk_call_25 : decode cBk_call 25 = .ok (.aload_n 2, 1) := by decide +kernel
theorem dBk_call_26 : decode cBk_call 26 = .ok (.getfield 127, 3) := by decide +kernel
theorem dBk_call_29 : decode cBk_call 29 = .ok (.invokevirtual 130, 3) := by decide +kernel
theorem dBk_call_32 : decode cBk_call 32 = .ok (.astore_n 3, 1) := by decide +kernel
theorem dBk_call_33 : decode cBk_call 33 = .ok (.aload_n 2, 1) := by decide +kernel
theorem dBk_call_34 : decode cBk_call 34 = .ok (.iconst 1, 1) := by decide +kernel
theorem dBk_call_35 : decode cBk_call 35 = .ok (.putfield 107, 3) := by decide +kernel
theorem dBk_call_38 : decode cBk_call 38 = .ok (.aload_n 2, 1) := by decide +kernel
theorem dBk_call_39 : decode cBk_call 39 = .ok (.aload_n 0, 1) := by decide +kernel
theorem dBk_call_40 : decode cBk_call 40 = .ok (.getfield 38, 3) := by decide +kernel
theorem dBk_call_43 : decode cBk_call 43 = .ok (.putfield 134, 3) := by decide +kernel
theorem dBk_call_46 : decode cBk_call 46 = .ok (.aload_n 3, 1) := by decide +kernel
theorem dBk_call_47 : decode cBk_call 47 = .ok (.iload_n 1, 1) := by decide +kernel
theorem dBk_call_48 : decode cBk_call 48 = .ok (.putfield 137, 3) := by decide +kernel
theorem dBk_call_51 : decode cBk_call 51 = .ok (.aload_n 3, 1) := by decide +kernel
theorem dBk_call_52 : decode cBk_call 52 = .ok (.aload_n 0, 1) := by decide +kernel
theorem dBk_call_53 : decode cBk_call 53 = .ok (.getfield 38, 3) := by decide +kernel
theorem dBk_call_56 : decode cBk_call 56 = .ok (.aload_n 2, 1) := by decide +kernel
theorem dBk_call_57 : decode cBk_call 57 = .ok (.getfield 80, 3) := by decide +kernel
theorem dBk_call_60 : decode cBk_call 60 = .ok (.iadd, 1) := by decide +kernel
theorem dBk_call_61 : decode cBk_call 61 = .ok (.putfield 140, 3) := by decide +kernel
theorem dBk_call_64 : decode cBk_call 64 = .ok (.return_, 1) := by decide +kernel
abbrev cBk_seal : ByteArray := prog_1_method_9_code
abbrev mBk_seal : MD := (⟨"DockBook", "seal", "(II)I"⟩, cBk_seal, 4, some (.int), [])
theorem dBk_seal_0 : decode cBk_seal 0 = .ok (.aload_n 0, 1) := by decide +kernel
theorem dBk_seal_1 : decode cBk_seal 1 = .ok (.iload_n 1, 1) := by decide +kernel
theorem dBk_seal_2 : decode cBk_seal 2 = .ok (.invokevirtual 114, 3) := by decide +kernel
theorem dBk_seal_5 : decode cBk_seal 5 = .ok (.astore_n 3, 1) := by decide +kernel
theorem dBk_seal_6 : decode cBk_seal 6 = .ok (.iload_n 2, 1) := by decide +kernel
theorem dBk_seal_7 : decode cBk_seal 7 = .ok (.iconst 0, 1) := by decide +kernel
theorem dBk_seal_8 : decode cBk_seal 8 = .ok (.sipush 9999, 3) := by decide +kernel
theorem dBk_seal_11 : decode cBk_seal 11 = .ok (.invokestatic 52, 3) := by decide +kernel
theorem dBk_seal_14 : decode cBk_seal 14 = .ok (.aload_n 3, 1) := by decide +kernel
theorem dBk_seal_15 : decode cBk_seal 15 = .ok (.getfield 107, 3) := by decide +kernel
theorem dBk_seal_18 : decode cBk_seal 18 = .ok (.ifCond .eq 21, 3) := by decide +kernel
theorem dBk_seal_21 : decode cBk_seal 21 = .ok (.aload_n 3, 1) := by decide +kernel
theorem dBk_seal_22 : decode cBk_seal 22 = .ok (.getfield 107, 3) := by decide +kernel
theorem dBk_seal_25 : decode cBk_seal 25 = .ok (.iconst 1, 1) := by decide +kernel
theorem dBk_seal_26 : decode cBk_seal 26 = .ok (.if_icmp .eq 13, 3) := by decide +kernel
theorem dBk_seal_29 : decode cBk_seal 29 = .ok (.new 122, 3) := by decide +kernel
theorem dBk_seal_32 : decode cBk_seal 32 = .ok (.dup, 1) := by decide +kernel
theorem dBk_seal_33 : decode cBk_seal 33 = .ok (.ldc 143, 2) := by decide +kernel
theorem dBk_seal_35 : decode cBk_seal 35 = .ok (.invokespecial 126, 3) := by decide +kernel
theorem dBk_seal_38 : decode cBk_seal 38 = .ok (.athrow, 1) := by decide +kernel
theorem dBk_seal_39 : decode cBk_seal 39 = .ok (.aload_n 3, 1) := by decide +kernel
theorem dBk_seal_40 : decode cBk_seal 40 = .ok (.iload_n 2, 1) := by decide +kernel
theorem dBk_seal_41 : decode cBk_seal 41 = .ok (.invokevirtual 145, 3) := by decide +kernel
theorem dBk_seal_44 : decode cBk_seal 44 = .ok (.ireturn, 1) := by decide +kernel
abbrev cBk_load : ByteArray := prog_1_method_10_code
abbrev mBk_load : MD := (⟨"DockBook", "load", "(III)Z"⟩, cBk_load, 5, some (.boolean), [])
theorem dBk_load_0 : decode cBk_load 0 = .ok (.aload_n 0, 1) := by decide +kernel
theorem dBk_load_1 : decode cBk_load 1 = .ok (.iload_n 1, 1) := by decide +kernel
theorem dBk_load_2 : decode cBk_load 2 = .ok (.invokevirtual 114, 3) := by decide +kernel
theorem dBk_load_5 : decode cBk_load 5 = .ok (.astore 4, 2) := by decide +kernel
theorem dBk_load_7 : decode cBk_load 7 = .ok (.iload_n 2, 1) := by decide +kernel
theorem dBk_load_8 : decode cBk_load 8 = .ok (.iconst 0, 1) := by decide +kernel
theorem dBk_load_9 : decode cBk_load 9 = .ok (.sipush 10000, 3) := by decide +kernel
theorem dBk_load_12 : decode cBk_load 12 = .ok (.invokestatic 52, 3) := by decide +kernel
theorem dBk_load_15 : decode cBk_load 15 = .ok (.iload_n 3, 1) := by decide +kernel
theorem dBk_load_16 : decode cBk_load 16 = .ok (.iconst 0, 1) := by decide +kernel
theorem dBk_load_17 : decode cBk_load 17 = .ok (.sipush 10000, 3) := by decide +kernel
theorem dBk_load_20 : decode cBk_load 20 = .ok (.invokestatic 52, 3) := by decide +kernel
theorem dBk_load_23 : decode cBk_load 23 = .ok (.aload 4, 2) := by decide +kernel
theorem dBk_load_25 : decode cBk_load 25 = .ok (.iconst 1, 1) := by decide +kernel
theorem dBk_load_26 : decode cBk_load 26 = .ok (.invokestatic 149, 3) := by decide +kernel
theorem dBk_load_29 : decode cBk_load 29 = .ok (.aload 4, 2) := by decide +kernel
theorem dBk_load_31 : decode cBk_load 31 = .ok (.iload_n 2, 1) := by decide +kernel
theorem dBk_load_32 : decode cBk_load 32 = .ok (.iload_n 3, 1) := by decide +kernel
theorem dBk_load_33 : decode cBk_load 33 = .ok (.if_icmp .ne 7, 3) := by decide +kernel
theorem dBk_load_36 : decode cBk_load 36 = .ok (.iconst 1, 1) := by decide +kernel
theorem dBk_load_37 : decode cBk_load 37 = .ok (.goto 4, 3) := by decide +kernel
theorem dBk_load_40 : decode cBk_load 40 = .ok (.iconst 0, 1) := by decide +kernel
theorem dBk_load_41 : decode cBk_load 41 = .ok (.putfield 153, 3) := by decide +kernel
theorem dBk_load_44 : decode cBk_load 44 = .ok (.aload 4, 2) := by decide +kernel
theorem dBk_load_46 : decode cBk_load 46 = .ok (.getfield 153, 3) := by decide +kernel
theorem dBk_load_49 : decode cBk_load 49 = .ok (.ireturn, 1) := by decide +kernel
abbrev cBk_depart : ByteArray := prog_1_method_11_code
abbrev mBk_depart : MD := (⟨"DockBook", "depart", "(I)I"⟩, cBk_depart, 4, some (.int), [])
theorem dBk_depart_0 : decode cBk_depart 0 = .ok (.aload_n 0, 1) := by decide +kernel
theorem dBk_depart_1 : decode cBk_depart 1 = .ok (.iload_n 1, 1) := by decide +kernel
theorem dBk_depart_2 : decode cBk_depart 2 = .ok (.invokevirtual 114, 3) := by decide +kernel
theorem dBk_depart_5 : decode cBk_depart 5 = .ok (.astore_n 2, 1) := by decide +kernel
theorem dBk_depart_6 : decode cBk_depart 6 = .ok (.aload_n 2, 1) := by decide +kernel
theorem dBk_depart_7 : decode cBk_depart 7 = .ok (.iconst 1, 1) := by decide +kernel
theorem dBk_depart_8 : decode cBk_depart 8 = .ok (.invokestatic 149, 3) := by decide +kernel
theorem dBk_depart_11 : decode cBk_depart 11 = .ok (.aload_n 2, 1) := by decide +kernel
theorem dBk_depart_12 : decode cBk_depart 12 = .ok (.getfield 156, 3) := by decide +kernel
theorem dBk_depart_15 : decode cBk_depart 15 = .ok (.ifCond .ne 5, 3) := by decide +kernel
theorem dBk_depart_18 : decode cBk_depart 18 = .ok (.iconst 2, 1) := by decide +kernel
theorem dBk_depart_19 : decode cBk_depart 19 = .ok (.ireturn, 1) := by decide +kernel
theorem dBk_depart_20 : decode cBk_depart 20 = .ok (.aload_n 2, 1) := by decide +kernel
theorem dBk_depart_21 : decode cBk_depart 21 = .ok (.getfield 153, 3) := by decide +kernel
theorem dBk_depart_24 : decode cBk_depart 24 = .ok (.ifCond .ne 5, 3) := by decide +kernel
theorem dBk_depart_27 : decode cBk_depart 27 = .ok (.iconst 3, 1) := by decide +kernel
theorem dBk_depart_28 : decode cBk_depart 28 = .ok (.ireturn, 1) := by decide +kernel
theorem dBk_depart_29 : decode cBk_depart 29 = .ok (.aload_n 2, 1) := by decide +kernel
theorem dBk_depart_30 : decode cBk_depart 30 = .ok (.getfield 134, 3) := by decide +kernel
theorem dBk_depart_33 : decode cBk_depart 33 = .ok (.aload_n 2, 1) := by decide +kernel
theorem dBk_depart_34 : decode cBk_depart 34 = .ok (.getfield 80, 3) := by decide +kernel
theorem dBk_depart_37 : decode cBk_depart 37 = .ok (.iadd, 1) := by decide +kernel
theorem dBk_depart_38 : decode cBk_depart 38 = .ok (.aload_n 0, 1) := by decide +kernel
theorem dBk_depart_39 : decode cBk_depart 39 = .ok (.getfield 38, 3) := by decide +kernel
theorem dBk_depart_42 : decode cBk_depart 42 = .ok (.if_icmp .le 5, 3) := by decide +kernel
theorem dBk_depart_45 : decode cBk_depart 45 = .ok (.iconst 4, 1) := by decide +kernel
theorem dBk_depart_46 : decode cBk_depart 46 = .ok (.ireturn, 1) := by decide +kernel
theorem dBk_depart_47 : decode cBk_depart 47 = .ok (.aload_n 0, 1) := by decide +kernel
theorem dBk_depart_48 : decode cBk_depart 48 = .ok (.aload_n 2, 1) := by decide +kernel
theorem dBk_depart_49 : decode cBk_depart 49 = .ok (.getfield 127, 3) := by decide +kernel
theorem dBk_depart_52 : decode cBk_depart 52 = .ok (.invokevirtual 130, 3) := by decide +kernel
theorem dBk_depart_55 : decode cBk_depart 55 = .ok (.astore_n 3, 1) := by decide +kernel
theorem dBk_depart_56 : decode cBk_depart 56 = .ok (.aload_n 2, 1) := by decide +kernel
theorem dBk_depart_57 : decode cBk_depart 57 = .ok (.iconst 2, 1) := by decide +kernel
theorem dBk_depart_58 : decode cBk_depart 58 = .ok (.putfield 107, 3) := by decide +kernel
theorem dBk_depart_61 : decode cBk_depart 61 = .ok (.aload_n 2, 1) := by decide +kernel
theorem dBk_depart_62 : decode cBk_depart 62 = .ok (.aload_n 0, 1) := by decide +kernel
theorem dBk_depart_63 : decode cBk_depart 63 = .ok (.getfield 38, 3) := by decide +kernel
theorem dBk_depart_66 : decode cBk_depart 66 = .ok (.putfield 159, 3) := by decide +kernel
theorem dBk_depart_69 : decode cBk_depart 69 = .ok (.aload_n 3, 1) := by decide +kernel
theorem dBk_depart_70 : decode cBk_depart 70 = .ok (.iconst (-1), 1) := by decide +kernel
theorem dBk_depart_71 : decode cBk_depart 71 = .ok (.putfield 137, 3) := by decide +kernel
theorem dBk_depart_74 : decode cBk_depart 74 = .ok (.aload_n 3, 1) := by decide +kernel
theorem dBk_depart_75 : decode cBk_depart 75 = .ok (.iconst 0, 1) := by decide +kernel
theorem dBk_depart_76 : decode cBk_depart 76 = .ok (.putfield 140, 3) := by decide +kernel
theorem dBk_depart_79 : decode cBk_depart 79 = .ok (.aload_n 3, 1) := by decide +kernel
theorem dBk_depart_80 : decode cBk_depart 80 = .ok (.dup, 1) := by decide +kernel
theorem dBk_depart_81 : decode cBk_depart 81 = .ok (.getfield 162, 3) := by decide +kernel
theorem dBk_depart_84 : decode cBk_depart 84 = .ok (.iconst 1, 1) := by decide +kernel
theorem dBk_depart_85 : decode cBk_depart 85 = .ok (.iadd, 1) := by decide +kernel
theorem dBk_depart_86 : decode cBk_depart 86 = .ok (.putfield 162, 3) := by decide +kernel
theorem dBk_depart_89 : decode cBk_depart 89 = .ok (.iconst 1, 1) := by decide +kernel
theorem dBk_depart_90 : decode cBk_depart 90 = .ok (.ireturn, 1) := by decide +kernel
abbrev cBk_late : ByteArray := prog_1_method_12_code
abbrev mBk_late : MD := (⟨"DockBook", "late", "(II)Z"⟩, cBk_late, 5, some (.boolean), [])
theorem dBk_late_0 : decode cBk_late 0 = .ok (.aload_n 0, 1) := by decide +kernel
theorem dBk_late_1 : decode cBk_late 1 = .ok (.iload_n 1, 1) := by decide +kernel
theorem dBk_late_2 : decode cBk_late 2 = .ok (.invokevirtual 114, 3) := by decide +kernel
theorem dBk_late_5 : decode cBk_late 5 = .ok (.astore_n 3, 1) := by decide +kernel
theorem dBk_late_6 : decode cBk_late 6 = .ok (.iload_n 2, 1) := by decide +kernel
theorem dBk_late_7 : decode cBk_late 7 = .ok (.iconst 0, 1) := by decide +kernel
theorem dBk_late_8 : decode cBk_late 8 = .ok (.sipush 2000, 3) := by decide +kernel
theorem dBk_late_11 : decode cBk_late 11 = .ok (.invokestatic 52, 3) := by decide +kernel
theorem dBk_late_14 : decode cBk_late 14 = .ok (.aload_n 3, 1) := by decide +kernel
theorem dBk_late_15 : decode cBk_late 15 = .ok (.iconst 0, 1) := by decide +kernel
theorem dBk_late_16 : decode cBk_late 16 = .ok (.invokestatic 149, 3) := by decide +kernel
theorem dBk_late_19 : decode cBk_late 19 = .ok (.aload_n 3, 1) := by decide +kernel
theorem dBk_late_20 : decode cBk_late 20 = .ok (.getfield 127, 3) := by decide +kernel
theorem dBk_late_23 : decode cBk_late 23 = .ok (.iconst (-1), 1) := by decide +kernel
theorem dBk_late_24 : decode cBk_late 24 = .ok (.if_icmp .eq 7, 3) := by decide +kernel
theorem dBk_late_27 : decode cBk_late 27 = .ok (.iconst 1, 1) := by decide +kernel
theorem dBk_late_28 : decode cBk_late 28 = .ok (.goto 4, 3) := by decide +kernel
theorem dBk_late_31 : decode cBk_late 31 = .ok (.iconst 0, 1) := by decide +kernel
theorem dBk_late_32 : decode cBk_late 32 = .ok (.istore 4, 2) := by decide +kernel
theorem dBk_late_34 : decode cBk_late 34 = .ok (.aload_n 3, 1) := by decide +kernel
theorem dBk_late_35 : decode cBk_late 35 = .ok (.iload_n 2, 1) := by decide +kernel
theorem dBk_late_36 : decode cBk_late 36 = .ok (.putfield 77, 3) := by decide +kernel
theorem dBk_late_39 : decode cBk_late 39 = .ok (.aload_n 3, 1) := by decide +kernel
theorem dBk_late_40 : decode cBk_late 40 = .ok (.getfield 134, 3) := by decide +kernel
theorem dBk_late_43 : decode cBk_late 43 = .ok (.iload_n 2, 1) := by decide +kernel
theorem dBk_late_44 : decode cBk_late 44 = .ok (.if_icmp .ge 9, 3) := by decide +kernel
theorem dBk_late_47 : decode cBk_late 47 = .ok (.aload_n 3, 1) := by decide +kernel
theorem dBk_late_48 : decode cBk_late 48 = .ok (.iconst (-1), 1) := by decide +kernel
theorem dBk_late_49 : decode cBk_late 49 = .ok (.iconst (-1), 1) := by decide +kernel
theorem dBk_late_50 : decode cBk_late 50 = .ok (.invokevirtual 165, 3) := by decide +kernel
theorem dBk_late_53 : decode cBk_late 53 = .ok (.iload 4, 2) := by decide +kernel
theorem dBk_late_55 : decode cBk_late 55 = .ok (.ireturn, 1) := by decide +kernel
abbrev cBk_cancel : ByteArray := prog_1_method_13_code
abbrev mBk_cancel : MD := (⟨"DockBook", "cancel", "(I)V"⟩, cBk_cancel, 3, none, [])
theorem dBk_cancel_0 : decode cBk_cancel 0 = .ok (.aload_n 0, 1) := by decide +kernel
theorem dBk_cancel_1 : decode cBk_cancel 1 = .ok (.iload_n 1, 1) := by decide +kernel
theorem dBk_cancel_2 : decode cBk_cancel 2 = .ok (.invokevirtual 114, 3) := by decide +kernel
theorem dBk_cancel_5 : decode cBk_cancel 5 = .ok (.astore_n 2, 1) := by decide +kernel
theorem dBk_cancel_6 : decode cBk_cancel 6 = .ok (.aload_n 2, 1) := by decide +kernel
theorem dBk_cancel_7 : decode cBk_cancel 7 = .ok (.iconst 0, 1) := by decide +kernel
theorem dBk_cancel_8 : decode cBk_cancel 8 = .ok (.invokestatic 149, 3) := by decide +kernel
theorem dBk_cancel_11 : decode cBk_cancel 11 = .ok (.aload_n 2, 1) := by decide +kernel
theorem dBk_cancel_12 : decode cBk_cancel 12 = .ok (.iconst 3, 1) := by decide +kernel
theorem dBk_cancel_13 : decode cBk_cancel 13 = .ok (.putfield 107, 3) := by decide +kernel
theorem dBk_cancel_16 : decode cBk_cancel 16 = .ok (.aload_n 2, 1) := by decide +kernel
theorem dBk_cancel_17 : decode cBk_cancel 17 = .ok (.iconst (-1), 1) := by decide +kernel
theorem dBk_cancel_18 : decode cBk_cancel 18 = .ok (.iconst (-1), 1) := by decide +kernel
theorem dBk_cancel_19 : decode cBk_cancel 19 = .ok (.invokevirtual 165, 3) := by decide +kernel
theorem dBk_cancel_22 : decode cBk_cancel 22 = .ok (.return_, 1) := by decide +kernel
abbrev cBk_out : ByteArray := prog_1_method_14_code
abbrev mBk_out : MD := (⟨"DockBook", "out", "(IZ)I"⟩, cBk_out, 6, some (.int), [])
theorem dBk_out_0 : decode cBk_out 0 = .ok (.aload_n 0, 1) := by decide +kernel
theorem dBk_out_1 : decode cBk_out 1 = .ok (.iload_n 1, 1) := by decide +kernel
theorem dBk_out_2 : decode cBk_out 2 = .ok (.invokevirtual 130, 3) := by decide +kernel
theorem dBk_out_5 : decode cBk_out 5 = .ok (.astore_n 3, 1) := by decide +kernel
theorem dBk_out_6 : decode cBk_out 6 = .ok (.aload_n 3, 1) := by decide +kernel
theorem dBk_out_7 : decode cBk_out 7 = .ok (.getfield 169, 3) := by decide +kernel
theorem dBk_out_10 : decode cBk_out 10 = .ok (.iload_n 2, 1) := by decide +kernel
theorem dBk_out_11 : decode cBk_out 11 = .ok (.if_icmp .ne 13, 3) := by decide +kernel
theorem dBk_out_14 : decode cBk_out 14 = .ok (.new 122, 3) := by decide +kernel
theorem dBk_out_17 : decode cBk_out 17 = .ok (.dup, 1) := by decide +kernel
theorem dBk_out_18 : decode cBk_out 18 = .ok (.ldc 172, 2) := by decide +kernel
theorem dBk_out_20 : decode cBk_out 20 = .ok (.invokespecial 126, 3) := by decide +kernel
theorem dBk_out_23 : decode cBk_out 23 = .ok (.athrow, 1) := by decide +kernel
theorem dBk_out_24 : decode cBk_out 24 = .ok (.aload_n 3, 1) := by decide +kernel
theorem dBk_out_25 : decode cBk_out 25 = .ok (.iload_n 2, 1) := by decide +kernel
theorem dBk_out_26 : decode cBk_out 26 = .ok (.putfield 169, 3) := by decide +kernel
theorem dBk_out_29 : decode cBk_out 29 = .ok (.iconst 0, 1) := by decide +kernel
theorem dBk_out_30 : decode cBk_out 30 = .ok (.istore 4, 2) := by decide +kernel
theorem dBk_out_32 : decode cBk_out 32 = .ok (.iconst 0, 1) := by decide +kernel
theorem dBk_out_33 : decode cBk_out 33 = .ok (.istore 5, 2) := by decide +kernel
theorem dBk_out_35 : decode cBk_out 35 = .ok (.iload 5, 2) := by decide +kernel
theorem dBk_out_37 : decode cBk_out 37 = .ok (.aload_n 0, 1) := by decide +kernel
theorem dBk_out_38 : decode cBk_out 38 = .ok (.getfield 35, 3) := by decide +kernel
theorem dBk_out_41 : decode cBk_out 41 = .ok (.if_icmp .ge 38, 3) := by decide +kernel
theorem dBk_out_44 : decode cBk_out 44 = .ok (.aload_n 0, 1) := by decide +kernel
theorem dBk_out_45 : decode cBk_out 45 = .ok (.getfield 17, 3) := by decide +kernel
theorem dBk_out_48 : decode cBk_out 48 = .ok (.iload 5, 2) := by decide +kernel
theorem dBk_out_50 : decode cBk_out 50 = .ok (.aaload, 1) := by decide +kernel
theorem dBk_out_51 : decode cBk_out 51 = .ok (.iload_n 1, 1) := by decide +kernel
theorem dBk_out_52 : decode cBk_out 52 = .ok (.invokevirtual 174, 3) := by decide +kernel
theorem dBk_out_55 : decode cBk_out 55 = .ok (.ifCond .eq 18, 3) := by decide +kernel
theorem dBk_out_58 : decode cBk_out 58 = .ok (.aload_n 0, 1) := by decide +kernel
theorem dBk_out_59 : decode cBk_out 59 = .ok (.getfield 17, 3) := by decide +kernel
theorem dBk_out_62 : decode cBk_out 62 = .ok (.iload 5, 2) := by decide +kernel
theorem dBk_out_64 : decode cBk_out 64 = .ok (.aaload, 1) := by decide +kernel
theorem dBk_out_65 : decode cBk_out 65 = .ok (.iconst (-1), 1) := by decide +kernel
theorem dBk_out_66 : decode cBk_out 66 = .ok (.iconst (-1), 1) := by decide +kernel
theorem dBk_out_67 : decode cBk_out 67 = .ok (.invokevirtual 165, 3) := by decide +kernel
theorem dBk_out_70 : decode cBk_out 70 = .ok (.iinc 4 1, 3) := by decide +kernel
theorem dBk_out_73 : decode cBk_out 73 = .ok (.iinc 5 1, 3) := by decide +kernel
theorem dBk_out_76 : decode cBk_out 76 = .ok (.goto (-41), 3) := by decide +kernel
theorem dBk_out_79 : decode cBk_out 79 = .ok (.iload 4, 2) := by decide +kernel
theorem dBk_out_81 : decode cBk_out 81 = .ok (.ireturn, 1) := by decide +kernel
abbrev cBk_pass : ByteArray := prog_1_method_15_code
abbrev mBk_pass : MD := (⟨"DockBook", "pass", "(I)V"⟩, cBk_pass, 2, none, [])
theorem dBk_pass_0 : decode cBk_pass 0 = .ok (.iload_n 1, 1) := by decide +kernel
theorem dBk_pass_1 : decode cBk_pass 1 = .ok (.aload_n 0, 1) := by decide +kernel
theorem dBk_pass_2 : decode cBk_pass 2 = .ok (.getfield 38, 3) := by decide +kernel
theorem dBk_pass_5 : decode cBk_pass 5 = .ok (.sipush 2000, 3) := by decide +kernel
theorem dBk_pass_8 : decode cBk_pass 8 = .ok (.invokestatic 52, 3) := by decide +kernel
theorem dBk_pass_11 : decode cBk_pass 11 = .ok (.aload_n 0, 1) := by decide +kernel
theorem dBk_pass_12 : decode cBk_pass 12 = .ok (.iload_n 1, 1) := by decide +kernel
theorem dBk_pass_13 : decode cBk_pass 13 = .ok (.putfield 38, 3) := by decide +kernel
theorem dBk_pass_16 : decode cBk_pass 16 = .ok (.return_, 1) := by decide +kernel
abbrev cBk_order : ByteArray := prog_1_method_16_code
abbrev mBk_order : MD := (⟨"DockBook", "order", "(II)I"⟩, cBk_order, 4, some (.int), [])
theorem dBk_order_0 : decode cBk_order 0 = .ok (.aload_n 0, 1) := by decide +kernel
theorem dBk_order_1 : decode cBk_order 1 = .ok (.iload_n 1, 1) := by decide +kernel
theorem dBk_order_2 : decode cBk_order 2 = .ok (.invokevirtual 130, 3) := by decide +kernel
theorem dBk_order_5 : decode cBk_order 5 = .ok (.pop, 1) := by decide +kernel
theorem dBk_order_6 : decode cBk_order 6 = .ok (.iconst 0, 1) := by decide +kernel
theorem dBk_order_7 : decode cBk_order 7 = .ok (.istore_n 3, 1) := by decide +kernel
theorem dBk_order_8 : decode cBk_order 8 = .ok (.iload_n 3, 1) := by decide +kernel
theorem dBk_order_9 : decode cBk_order 9 = .ok (.aload_n 0, 1) := by decide +kernel
theorem dBk_order_10 : decode cBk_order 10 = .ok (.getfield 35, 3) := by decide +kernel
theorem dBk_order_13 : decode cBk_order 13 = .ok (.if_icmp .ge 38, 3) := by decide +kernel
theorem dBk_order_16 : decode cBk_order 16 = .ok (.aload_n 0, 1) := by decide +kernel
theorem dBk_order_17 : decode cBk_order 17 = .ok (.getfield 17, 3) := by decide +kernel
theorem dBk_order_20 : decode cBk_order 20 = .ok (.iload_n 3, 1) := by decide +kernel
theorem dBk_order_21 : decode cBk_order 21 = .ok (.aaload, 1) := by decide +kernel
theorem dBk_order_22 : decode cBk_order 22 = .ok (.iload_n 1, 1) := by decide +kernel
theorem dBk_order_23 : decode cBk_order 23 = .ok (.invokevirtual 174, 3) := by decide +kernel
theorem dBk_order_26 : decode cBk_order 26 = .ok (.ifCond .eq 19, 3) := by decide +kernel
theorem dBk_order_29 : decode cBk_order 29 = .ok (.aload_n 0, 1) := by decide +kernel
theorem dBk_order_30 : decode cBk_order 30 = .ok (.aload_n 0, 1) := by decide +kernel
theorem dBk_order_31 : decode cBk_order 31 = .ok (.getfield 17, 3) := by decide +kernel
theorem dBk_order_34 : decode cBk_order 34 = .ok (.iload_n 3, 1) := by decide +kernel
theorem dBk_order_35 : decode cBk_order 35 = .ok (.aaload, 1) := by decide +kernel
theorem dBk_order_36 : decode cBk_order 36 = .ok (.invokevirtual 178, 3) := by decide +kernel
theorem dBk_order_39 : decode cBk_order 39 = .ok (.iload_n 2, 1) := by decide +kernel
theorem dBk_order_40 : decode cBk_order 40 = .ok (.if_icmp .ne 5, 3) := by decide +kernel
theorem dBk_order_43 : decode cBk_order 43 = .ok (.iload_n 3, 1) := by decide +kernel
theorem dBk_order_44 : decode cBk_order 44 = .ok (.ireturn, 1) := by decide +kernel
theorem dBk_order_45 : decode cBk_order 45 = .ok (.iinc 3 1, 3) := by decide +kernel
theorem dBk_order_48 : decode cBk_order 48 = .ok (.goto (-40), 3) := by decide +kernel
theorem dBk_order_51 : decode cBk_order 51 = .ok (.new 181, 3) := by decide +kernel
theorem dBk_order_54 : decode cBk_order 54 = .ok (.dup, 1) := by decide +kernel
theorem dBk_order_55 : decode cBk_order 55 = .ok (.ldc 183, 2) := by decide +kernel
theorem dBk_order_57 : decode cBk_order 57 = .ok (.invokespecial 185, 3) := by decide +kernel
theorem dBk_order_60 : decode cBk_order 60 = .ok (.athrow, 1) := by decide +kernel
abbrev cBk_told : ByteArray := prog_1_method_17_code
abbrev mBk_told : MD := (⟨"DockBook", "told", "(II)I"⟩, cBk_told, 4, some (.int), [])
theorem dBk_told_0 : decode cBk_told 0 = .ok (.aload_n 0, 1) := by decide +kernel
theorem dBk_told_1 : decode cBk_told 1 = .ok (.iload_n 1, 1) := by decide +kernel
theorem dBk_told_2 : decode cBk_told 2 = .ok (.invokevirtual 114, 3) := by decide +kernel
theorem dBk_told_5 : decode cBk_told 5 = .ok (.astore_n 3, 1) := by decide +kernel
theorem dBk_told_6 : decode cBk_told 6 = .ok (.iload_n 2, 1) := by decide +kernel
theorem dBk_told_7 : decode cBk_told 7 = .ok (.tableswitch 102 0 7 #[45, 50, 55, 60, 65, 70, 75, 80], 45) := by decide +kernel
theorem dBk_told_52 : decode cBk_told 52 = .ok (.aload_n 3, 1) := by decide +kernel
theorem dBk_told_53 : decode cBk_told 53 = .ok (.getfield 107, 3) := by decide +kernel
theorem dBk_told_56 : decode cBk_told 56 = .ok (.ireturn, 1) := by decide +kernel
theorem dBk_told_57 : decode cBk_told 57 = .ok (.aload_n 3, 1) := by decide +kernel
theorem dBk_told_58 : decode cBk_told 58 = .ok (.getfield 127, 3) := by decide +kernel
theorem dBk_told_61 : decode cBk_told 61 = .ok (.ireturn, 1) := by decide +kernel
theorem dBk_told_62 : decode cBk_told 62 = .ok (.aload_n 3, 1) := by decide +kernel
theorem dBk_told_63 : decode cBk_told 63 = .ok (.getfield 134, 3) := by decide +kernel
theorem dBk_told_66 : decode cBk_told 66 = .ok (.ireturn, 1) := by decide +kernel
theorem dBk_told_67 : decode cBk_told 67 = .ok (.aload_n 3, 1) := by decide +kernel
theorem dBk_told_68 : decode cBk_told 68 = .ok (.getfield 77, 3) := by decide +kernel
theorem dBk_told_71 : decode cBk_told 71 = .ok (.ireturn, 1) := by decide +kernel
theorem dBk_told_72 : decode cBk_told 72 = .ok (.aload_n 3, 1) := by decide +kernel
theorem dBk_told_73 : decode cBk_told 73 = .ok (.getfield 80, 3) := by decide +kernel
theorem dBk_told_76 : decode cBk_told 76 = .ok (.ireturn, 1) := by decide +kernel
theorem dBk_told_77 : decode cBk_told 77 = .ok (.aload_n 3, 1) := by decide +kernel
theorem dBk_told_78 : decode cBk_told 78 = .ok (.getfield 83, 3) := by decide +kernel
theorem dBk_told_81 : decode cBk_told 81 = .ok (.ireturn, 1) := by decide +kernel
theorem dBk_told_82 : decode cBk_told 82 = .ok (.aload_n 3, 1) := by decide +kernel
theorem dBk_told_83 : decode cBk_told 83 = .ok (.getfield 74, 3) := by decide +kernel
theorem dBk_told_86 : decode cBk_told 86 = .ok (.ireturn, 1) := by decide +kernel
theorem dBk_told_87 : decode cBk_told 87 = .ok (.aload_n 3, 1) := by decide +kernel
theorem dBk_told_88 : decode cBk_told 88 = .ok (.getfield 159, 3) := by decide +kernel
theorem dBk_told_91 : decode cBk_told 91 = .ok (.iconst (-1), 1) := by decide +kernel
theorem dBk_told_92 : decode cBk_told 92 = .ok (.if_icmp .ne 7, 3) := by decide +kernel
theorem dBk_told_95 : decode cBk_told 95 = .ok (.iconst (-1), 1) := by decide +kernel
theorem dBk_told_96 : decode cBk_told 96 = .ok (.goto 12, 3) := by decide +kernel
theorem dBk_told_99 : decode cBk_told 99 = .ok (.aload_n 3, 1) := by decide +kernel
theorem dBk_told_100 : decode cBk_told 100 = .ok (.getfield 159, 3) := by decide +kernel
theorem dBk_told_103 : decode cBk_told 103 = .ok (.aload_n 3, 1) := by decide +kernel
theorem dBk_told_104 : decode cBk_told 104 = .ok (.getfield 77, 3) := by decide +kernel
theorem dBk_told_107 : decode cBk_told 107 = .ok (.isub, 1) := by decide +kernel
theorem dBk_told_108 : decode cBk_told 108 = .ok (.ireturn, 1) := by decide +kernel
theorem dBk_told_109 : decode cBk_told 109 = .ok (.new 186, 3) := by decide +kernel
theorem dBk_told_112 : decode cBk_told 112 = .ok (.dup, 1) := by decide +kernel
theorem dBk_told_113 : decode cBk_told 113 = .ok (.ldc 188, 2) := by decide +kernel
theorem dBk_told_115 : decode cBk_told 115 = .ok (.invokespecial 190, 3) := by decide +kernel
theorem dBk_told_118 : decode cBk_told 118 = .ok (.athrow, 1) := by decide +kernel
abbrev cBk_known : ByteArray := prog_1_method_18_code
abbrev mBk_known : MD := (⟨"DockBook", "known", "(II)I"⟩, cBk_known, 4, some (.int), [])
theorem dBk_known_0 : decode cBk_known 0 = .ok (.aload_n 0, 1) := by decide +kernel
theorem dBk_known_1 : decode cBk_known 1 = .ok (.iload_n 1, 1) := by decide +kernel
theorem dBk_known_2 : decode cBk_known 2 = .ok (.invokevirtual 130, 3) := by decide +kernel
theorem dBk_known_5 : decode cBk_known 5 = .ok (.astore_n 3, 1) := by decide +kernel
theorem dBk_known_6 : decode cBk_known 6 = .ok (.iload_n 2, 1) := by decide +kernel
theorem dBk_known_7 : decode cBk_known 7 = .ok (.tableswitch 67 0 4 #[33, 38, 51, 57, 62], 33) := by decide +kernel
theorem dBk_known_40 : decode cBk_known 40 = .ok (.aload_n 3, 1) := by decide +kernel
theorem dBk_known_41 : decode cBk_known 41 = .ok (.getfield 137, 3) := by decide +kernel
theorem dBk_known_44 : decode cBk_known 44 = .ok (.ireturn, 1) := by decide +kernel
theorem dBk_known_45 : decode cBk_known 45 = .ok (.aload_n 3, 1) := by decide +kernel
theorem dBk_known_46 : decode cBk_known 46 = .ok (.getfield 169, 3) := by decide +kernel
theorem dBk_known_49 : decode cBk_known 49 = .ok (.ifCond .eq 7, 3) := by decide +kernel
theorem dBk_known_52 : decode cBk_known 52 = .ok (.iconst 1, 1) := by decide +kernel
theorem dBk_known_53 : decode cBk_known 53 = .ok (.goto 4, 3) := by decide +kernel
theorem dBk_known_56 : decode cBk_known 56 = .ok (.iconst 0, 1) := by decide +kernel
theorem dBk_known_57 : decode cBk_known 57 = .ok (.ireturn, 1) := by decide +kernel
theorem dBk_known_58 : decode cBk_known 58 = .ok (.aload_n 0, 1) := by decide +kernel
theorem dBk_known_59 : decode cBk_known 59 = .ok (.iload_n 1, 1) := by decide +kernel
theorem dBk_known_60 : decode cBk_known 60 = .ok (.invokevirtual 191, 3) := by decide +kernel
theorem dBk_known_63 : decode cBk_known 63 = .ok (.ireturn, 1) := by decide +kernel
theorem dBk_known_64 : decode cBk_known 64 = .ok (.aload_n 3, 1) := by decide +kernel
theorem dBk_known_65 : decode cBk_known 65 = .ok (.getfield 63, 3) := by decide +kernel
theorem dBk_known_68 : decode cBk_known 68 = .ok (.ireturn, 1) := by decide +kernel
theorem dBk_known_69 : decode cBk_known 69 = .ok (.aload_n 3, 1) := by decide +kernel
theorem dBk_known_70 : decode cBk_known 70 = .ok (.getfield 162, 3) := by decide +kernel
theorem dBk_known_73 : decode cBk_known 73 = .ok (.ireturn, 1) := by decide +kernel
theorem dBk_known_74 : decode cBk_known 74 = .ok (.new 186, 3) := by decide +kernel
theorem dBk_known_77 : decode cBk_known 77 = .ok (.dup, 1) := by decide +kernel
theorem dBk_known_78 : decode cBk_known 78 = .ok (.ldc 194, 2) := by decide +kernel
theorem dBk_known_80 : decode cBk_known 80 = .ok (.invokespecial 190, 3) := by decide +kernel
theorem dBk_known_83 : decode cBk_known 83 = .ok (.athrow, 1) := by decide +kernel
abbrev cBk_count : ByteArray := prog_1_method_19_code
abbrev mBk_count : MD := (⟨"DockBook", "count", "(I)I"⟩, cBk_count, 2, some (.int), [])
theorem dBk_count_0 : decode cBk_count 0 = .ok (.iload_n 1, 1) := by decide +kernel
theorem dBk_count_1 : decode cBk_count 1 = .ok (.tableswitch 91 0 7 #[47, 52, 57, 63, 69, 75, 81, 86], 47) := by decide +kernel
theorem dBk_count_48 : decode cBk_count 48 = .ok (.aload_n 0, 1) := by decide +kernel
theorem dBk_count_49 : decode cBk_count 49 = .ok (.getfield 31, 3) := by decide +kernel
theorem dBk_count_52 : decode cBk_count 52 = .ok (.ireturn, 1) := by decide +kernel
theorem dBk_count_53 : decode cBk_count 53 = .ok (.aload_n 0, 1) := by decide +kernel
theorem dBk_count_54 : decode cBk_count 54 = .ok (.getfield 35, 3) := by decide +kernel
theorem dBk_count_57 : decode cBk_count 57 = .ok (.ireturn, 1) := by decide +kernel
theorem dBk_count_58 : decode cBk_count 58 = .ok (.aload_n 0, 1) := by decide +kernel
theorem dBk_count_59 : decode cBk_count 59 = .ok (.iconst 0, 1) := by decide +kernel
theorem dBk_count_60 : decode cBk_count 60 = .ok (.invokevirtual 196, 3) := by decide +kernel
theorem dBk_count_63 : decode cBk_count 63 = .ok (.ireturn, 1) := by decide +kernel
theorem dBk_count_64 : decode cBk_count 64 = .ok (.aload_n 0, 1) := by decide +kernel
theorem dBk_count_65 : decode cBk_count 65 = .ok (.iconst 1, 1) := by decide +kernel
theorem dBk_count_66 : decode cBk_count 66 = .ok (.invokevirtual 196, 3) := by decide +kernel
theorem dBk_count_69 : decode cBk_count 69 = .ok (.ireturn, 1) := by decide +kernel
theorem dBk_count_70 : decode cBk_count 70 = .ok (.aload_n 0, 1) := by decide +kernel
theorem dBk_count_71 : decode cBk_count 71 = .ok (.iconst 2, 1) := by decide +kernel
theorem dBk_count_72 : decode cBk_count 72 = .ok (.invokevirtual 196, 3) := by decide +kernel
theorem dBk_count_75 : decode cBk_count 75 = .ok (.ireturn, 1) := by decide +kernel
theorem dBk_count_76 : decode cBk_count 76 = .ok (.aload_n 0, 1) := by decide +kernel
theorem dBk_count_77 : decode cBk_count 77 = .ok (.iconst 3, 1) := by decide +kernel
theorem dBk_count_78 : decode cBk_count 78 = .ok (.invokevirtual 196, 3) := by decide +kernel
theorem dBk_count_81 : decode cBk_count 81 = .ok (.ireturn, 1) := by decide +kernel
theorem dBk_count_82 : decode cBk_count 82 = .ok (.aload_n 0, 1) := by decide +kernel
theorem dBk_count_83 : decode cBk_count 83 = .ok (.getfield 38, 3) := by decide +kernel
theorem dBk_count_86 : decode cBk_count 86 = .ok (.ireturn, 1) := by decide +kernel
theorem dBk_count_87 : decode cBk_count 87 = .ok (.aload_n 0, 1) := by decide +kernel
theorem dBk_count_88 : decode cBk_count 88 = .ok (.invokevirtual 104, 3) := by decide +kernel
theorem dBk_count_91 : decode cBk_count 91 = .ok (.ireturn, 1) := by decide +kernel
theorem dBk_count_92 : decode cBk_count 92 = .ok (.iconst (-1), 1) := by decide +kernel
theorem dBk_count_93 : decode cBk_count 93 = .ok (.ireturn, 1) := by decide +kernel
abbrev cBk_requireRange : ByteArray := prog_1_method_20_code
abbrev mBk_requireRange : MD := (⟨"DockBook", "requireRange", "(III)V"⟩, cBk_requireRange, 3, none, [])
theorem dBk_requireRange_0 : decode cBk_requireRange 0 = .ok (.iload_n 0, 1) := by decide +kernel
theorem dBk_requireRange_1 : decode cBk_requireRange 1 = .ok (.iload_n 1, 1) := by decide +kernel
theorem dBk_requireRange_2 : decode cBk_requireRange 2 = .ok (.if_icmp .lt 8, 3) := by decide +kernel
theorem dBk_requireRange_5 : decode cBk_requireRange 5 = .ok (.iload_n 0, 1) := by decide +kernel
theorem dBk_requireRange_6 : decode cBk_requireRange 6 = .ok (.iload_n 2, 1) := by decide +kernel
theorem dBk_requireRange_7 : decode cBk_requireRange 7 = .ok (.if_icmp .le 13, 3) := by decide +kernel
theorem dBk_requireRange_10 : decode cBk_requireRange 10 = .ok (.new 186, 3) := by decide +kernel
theorem dBk_requireRange_13 : decode cBk_requireRange 13 = .ok (.dup, 1) := by decide +kernel
theorem dBk_requireRange_14 : decode cBk_requireRange 14 = .ok (.ldc 199, 2) := by decide +kernel
theorem dBk_requireRange_16 : decode cBk_requireRange 16 = .ok (.invokespecial 190, 3) := by decide +kernel
theorem dBk_requireRange_19 : decode cBk_requireRange 19 = .ok (.athrow, 1) := by decide +kernel
theorem dBk_requireRange_20 : decode cBk_requireRange 20 = .ok (.return_, 1) := by decide +kernel
abbrev cBk_requireState : ByteArray := prog_1_method_21_code
abbrev mBk_requireState : MD := (⟨"DockBook", "requireState", "(LDockBook$Truck;I)V"⟩, cBk_requireState, 2, none, [])
theorem dBk_requireState_0 : decode cBk_requireState 0 = .ok (.aload_n 0, 1) := by decide +kernel
theorem dBk_requireState_1 : decode cBk_requireState 1 = .ok (.getfield 107, 3) := by decide +kernel
theorem dBk_requireState_4 : decode cBk_requireState 4 = .ok (.iload_n 1, 1) := by decide +kernel
theorem dBk_requireState_5 : decode cBk_requireState 5 = .ok (.if_icmp .eq 13, 3) := by decide +kernel
theorem dBk_requireState_8 : decode cBk_requireState 8 = .ok (.new 122, 3) := by decide +kernel
theorem dBk_requireState_11 : decode cBk_requireState 11 = .ok (.dup, 1) := by decide +kernel
theorem dBk_requireState_12 : decode cBk_requireState 12 = .ok (.ldc 201, 2) := by decide +kernel
theorem dBk_requireState_14 : decode cBk_requireState 14 = .ok (.invokespecial 126, 3) := by decide +kernel
theorem dBk_requireState_17 : decode cBk_requireState 17 = .ok (.athrow, 1) := by decide +kernel
theorem dBk_requireState_18 : decode cBk_requireState 18 = .ok (.return_, 1) := by decide +kernel
abbrev cBk_truckNumbered : ByteArray := prog_1_method_22_code
abbrev mBk_truckNumbered : MD := (⟨"DockBook", "truckNumbered", "(I)LDockBook$Truck;"⟩, cBk_truckNumbered, 2, some (.object "DockBook$Truck"), [])
theorem dBk_truckNumbered_0 : decode cBk_truckNumbered 0 = .ok (.iload_n 1, 1) := by decide +kernel
theorem dBk_truckNumbered_1 : decode cBk_truckNumbered 1 = .ok (.ifCond .lt 11, 3) := by decide +kernel
theorem dBk_truckNumbered_4 : decode cBk_truckNumbered 4 = .ok (.iload_n 1, 1) := by decide +kernel
theorem dBk_truckNumbered_5 : decode cBk_truckNumbered 5 = .ok (.aload_n 0, 1) := by decide +kernel
theorem dBk_truckNumbered_6 : decode cBk_truckNumbered 6 = .ok (.getfield 35, 3) := by decide +kernel
theorem dBk_truckNumbered_9 : decode cBk_truckNumbered 9 = .ok (.if_icmp .lt 13, 3) := by decide +kernel
theorem dBk_truckNumbered_12 : decode cBk_truckNumbered 12 = .ok (.new 181, 3) := by decide +kernel
theorem dBk_truckNumbered_15 : decode cBk_truckNumbered 15 = .ok (.dup, 1) := by decide +kernel
theorem dBk_truckNumbered_16 : decode cBk_truckNumbered 16 = .ok (.ldc 203, 2) := by decide +kernel
theorem dBk_truckNumbered_18 : decode cBk_truckNumbered 18 = .ok (.invokespecial 185, 3) := by decide +kernel
theorem dBk_truckNumbered_21 : decode cBk_truckNumbered 21 = .ok (.athrow, 1) := by decide +kernel
theorem dBk_truckNumbered_22 : decode cBk_truckNumbered 22 = .ok (.aload_n 0, 1) := by decide +kernel
theorem dBk_truckNumbered_23 : decode cBk_truckNumbered 23 = .ok (.getfield 17, 3) := by decide +kernel
theorem dBk_truckNumbered_26 : decode cBk_truckNumbered 26 = .ok (.iload_n 1, 1) := by decide +kernel
theorem dBk_truckNumbered_27 : decode cBk_truckNumbered 27 = .ok (.aaload, 1) := by decide +kernel
theorem dBk_truckNumbered_28 : decode cBk_truckNumbered 28 = .ok (.areturn, 1) := by decide +kernel
abbrev cBk_doorNumbered : ByteArray := prog_1_method_23_code
abbrev mBk_doorNumbered : MD := (⟨"DockBook", "doorNumbered", "(I)LDockBook$Door;"⟩, cBk_doorNumbered, 2, some (.object "DockBook$Door"), [])
theorem dBk_doorNumbered_0 : decode cBk_doorNumbered 0 = .ok (.iload_n 1, 1) := by decide +kernel
theorem dBk_doorNumbered_1 : decode cBk_doorNumbered 1 = .ok (.ifCond .lt 11, 3) := by decide +kernel
theorem dBk_doorNumbered_4 : decode cBk_doorNumbered 4 = .ok (.iload_n 1, 1) := by decide +kernel
theorem dBk_doorNumbered_5 : decode cBk_doorNumbered 5 = .ok (.aload_n 0, 1) := by decide +kernel
theorem dBk_doorNumbered_6 : decode cBk_doorNumbered 6 = .ok (.getfield 31, 3) := by decide +kernel
theorem dBk_doorNumbered_9 : decode cBk_doorNumbered 9 = .ok (.if_icmp .lt 13, 3) := by decide +kernel
theorem dBk_doorNumbered_12 : decode cBk_doorNumbered 12 = .ok (.new 181, 3) := by decide +kernel
theorem dBk_doorNumbered_15 : decode cBk_doorNumbered 15 = .ok (.dup, 1) := by decide +kernel
theorem dBk_doorNumbered_16 : decode cBk_doorNumbered 16 = .ok (.ldc 205, 2) := by decide +kernel
theorem dBk_doorNumbered_18 : decode cBk_doorNumbered 18 = .ok (.invokespecial 185, 3) := by decide +kernel
theorem dBk_doorNumbered_21 : decode cBk_doorNumbered 21 = .ok (.athrow, 1) := by decide +kernel
theorem dBk_doorNumbered_22 : decode cBk_doorNumbered 22 = .ok (.aload_n 0, 1) := by decide +kernel
theorem dBk_doorNumbered_23 : decode cBk_doorNumbered 23 = .ok (.getfield 11, 3) := by decide +kernel
theorem dBk_doorNumbered_26 : decode cBk_doorNumbered 26 = .ok (.iload_n 1, 1) := by decide +kernel
theorem dBk_doorNumbered_27 : decode cBk_doorNumbered 27 = .ok (.aaload, 1) := by decide +kernel
theorem dBk_doorNumbered_28 : decode cBk_doorNumbered 28 = .ok (.areturn, 1) := by decide +kernel
abbrev cBk_trucksThatAre : ByteArray := prog_1_method_24_code
abbrev mBk_trucksThatAre : MD := (⟨"DockBook", "trucksThatAre", "(I)I"⟩, cBk_trucksThatAre, 4, some (.int), [])
theorem dBk_trucksThatAre_0 : decode cBk_trucksThatAre 0 = .ok (.iconst 0, 1) := by decide +kernel
theorem dBk_trucksThatAre_1 : decode cBk_trucksThatAre 1 = .ok (.istore_n 2, 1) := by decide +kernel
theorem dBk_trucksThatAre_2 : decode cBk_trucksThatAre 2 = .ok (.iconst 0, 1) := by decide +kernel
theorem dBk_trucksThatAre_3 : decode cBk_trucksThatAre 3 = .ok (.istore_n 3, 1) := by decide +kernel
theorem dBk_trucksThatAre_4 : decode cBk_trucksThatAre 4 = .ok (.iload_n 3, 1) := by decide +kernel
theorem dBk_trucksThatAre_5 : decode cBk_trucksThatAre 5 = .ok (.aload_n 0, 1) := by decide +kernel
theorem dBk_trucksThatAre_6 : decode cBk_trucksThatAre 6 = .ok (.getfield 35, 3) := by decide +kernel
theorem dBk_trucksThatAre_9 : decode cBk_trucksThatAre 9 = .ok (.if_icmp .ge 30, 3) := by decide +kernel
theorem dBk_trucksThatAre_12 : decode cBk_trucksThatAre 12 = .ok (.iload_n 2, 1) := by decide +kernel
theorem dBk_trucksThatAre_13 : decode cBk_trucksThatAre 13 = .ok (.aload_n 0, 1) := by decide +kernel
theorem dBk_trucksThatAre_14 : decode cBk_trucksThatAre 14 = .ok (.getfield 17, 3) := by decide +kernel
theorem dBk_trucksThatAre_17 : decode cBk_trucksThatAre 17 = .ok (.iload_n 3, 1) := by decide +kernel
theorem dBk_trucksThatAre_18 : decode cBk_trucksThatAre 18 = .ok (.aaload, 1) := by decide +kernel
theorem dBk_trucksThatAre_19 : decode cBk_trucksThatAre 19 = .ok (.getfield 107, 3) := by decide +kernel
theorem dBk_trucksThatAre_22 : decode cBk_trucksThatAre 22 = .ok (.iload_n 1, 1) := by decide +kernel
theorem dBk_trucksThatAre_23 : decode cBk_trucksThatAre 23 = .ok (.if_icmp .ne 7, 3) := by decide +kernel
theorem dBk_trucksThatAre_26 : decode cBk_trucksThatAre 26 = .ok (.iconst 1, 1) := by decide +kernel
theorem dBk_trucksThatAre_27 : decode cBk_trucksThatAre 27 = .ok (.goto 4, 3) := by decide +kernel
theorem dBk_trucksThatAre_30 : decode cBk_trucksThatAre 30 = .ok (.iconst 0, 1) := by decide +kernel
theorem dBk_trucksThatAre_31 : decode cBk_trucksThatAre 31 = .ok (.iadd, 1) := by decide +kernel
theorem dBk_trucksThatAre_32 : decode cBk_trucksThatAre 32 = .ok (.istore_n 2, 1) := by decide +kernel
theorem dBk_trucksThatAre_33 : decode cBk_trucksThatAre 33 = .ok (.iinc 3 1, 3) := by decide +kernel
theorem dBk_trucksThatAre_36 : decode cBk_trucksThatAre 36 = .ok (.goto (-32), 3) := by decide +kernel
theorem dBk_trucksThatAre_39 : decode cBk_trucksThatAre 39 = .ok (.iload_n 2, 1) := by decide +kernel
theorem dBk_trucksThatAre_40 : decode cBk_trucksThatAre 40 = .ok (.ireturn, 1) := by decide +kernel
abbrev cBk_plannedFor : ByteArray := prog_1_method_25_code
abbrev mBk_plannedFor : MD := (⟨"DockBook", "plannedFor", "(I)I"⟩, cBk_plannedFor, 4, some (.int), [])
theorem dBk_plannedFor_0 : decode cBk_plannedFor 0 = .ok (.iconst 0, 1) := by decide +kernel
theorem dBk_plannedFor_1 : decode cBk_plannedFor 1 = .ok (.istore_n 2, 1) := by decide +kernel
theorem dBk_plannedFor_2 : decode cBk_plannedFor 2 = .ok (.iconst 0, 1) := by decide +kernel
theorem dBk_plannedFor_3 : decode cBk_plannedFor 3 = .ok (.istore_n 3, 1) := by decide +kernel
theorem dBk_plannedFor_4 : decode cBk_plannedFor 4 = .ok (.iload_n 3, 1) := by decide +kernel
theorem dBk_plannedFor_5 : decode cBk_plannedFor 5 = .ok (.aload_n 0, 1) := by decide +kernel
theorem dBk_plannedFor_6 : decode cBk_plannedFor 6 = .ok (.getfield 35, 3) := by decide +kernel
theorem dBk_plannedFor_9 : decode cBk_plannedFor 9 = .ok (.if_icmp .ge 30, 3) := by decide +kernel
theorem dBk_plannedFor_12 : decode cBk_plannedFor 12 = .ok (.iload_n 2, 1) := by decide +kernel
theorem dBk_plannedFor_13 : decode cBk_plannedFor 13 = .ok (.aload_n 0, 1) := by decide +kernel
theorem dBk_plannedFor_14 : decode cBk_plannedFor 14 = .ok (.getfield 17, 3) := by decide +kernel
theorem dBk_plannedFor_17 : decode cBk_plannedFor 17 = .ok (.iload_n 3, 1) := by decide +kernel
theorem dBk_plannedFor_18 : decode cBk_plannedFor 18 = .ok (.aaload, 1) := by decide +kernel
theorem dBk_plannedFor_19 : decode cBk_plannedFor 19 = .ok (.iload_n 1, 1) := by decide +kernel
theorem dBk_plannedFor_20 : decode cBk_plannedFor 20 = .ok (.invokevirtual 174, 3) := by decide +kernel
theorem dBk_plannedFor_23 : decode cBk_plannedFor 23 = .ok (.ifCond .eq 7, 3) := by decide +kernel
theorem dBk_plannedFor_26 : decode cBk_plannedFor 26 = .ok (.iconst 1, 1) := by decide +kernel
theorem dBk_plannedFor_27 : decode cBk_plannedFor 27 = .ok (.goto 4, 3) := by decide +kernel
theorem dBk_plannedFor_30 : decode cBk_plannedFor 30 = .ok (.iconst 0, 1) := by decide +kernel
theorem dBk_plannedFor_31 : decode cBk_plannedFor 31 = .ok (.iadd, 1) := by decide +kernel
theorem dBk_plannedFor_32 : decode cBk_plannedFor 32 = .ok (.istore_n 2, 1) := by decide +kernel
theorem dBk_plannedFor_33 : decode cBk_plannedFor 33 = .ok (.iinc 3 1, 3) := by decide +kernel
theorem dBk_plannedFor_36 : decode cBk_plannedFor 36 = .ok (.goto (-32), 3) := by decide +kernel
theorem dBk_plannedFor_39 : decode cBk_plannedFor 39 = .ok (.iload_n 2, 1) := by decide +kernel
theorem dBk_plannedFor_40 : decode cBk_plannedFor 40 = .ok (.ireturn, 1) := by decide +kernel
abbrev cBk_plannedBefore : ByteArray := prog_1_method_26_code
abbrev mBk_plannedBefore : MD := (⟨"DockBook", "plannedBefore", "(LDockBook$Truck;)I"⟩, cBk_plannedBefore, 6, some (.int), [])
theorem dBk_plannedBefore_0 : decode cBk_plannedBefore 0 = .ok (.iconst 0, 1) := by decide +kernel
theorem dBk_plannedBefore_1 : decode cBk_plannedBefore 1 = .ok (.istore_n 2, 1) := by decide +kernel
theorem dBk_plannedBefore_2 : decode cBk_plannedBefore 2 = .ok (.iconst 0, 1) := by decide +kernel
theorem dBk_plannedBefore_3 : decode cBk_plannedBefore 3 = .ok (.istore_n 3, 1) := by decide +kernel
theorem dBk_plannedBefore_4 : decode cBk_plannedBefore 4 = .ok (.iload_n 3, 1) := by decide +kernel
theorem dBk_plannedBefore_5 : decode cBk_plannedBefore 5 = .ok (.aload_n 0, 1) := by decide +kernel
theorem dBk_plannedBefore_6 : decode cBk_plannedBefore 6 = .ok (.getfield 35, 3) := by decide +kernel
theorem dBk_plannedBefore_9 : decode cBk_plannedBefore 9 = .ok (.if_icmp .ge 85, 3) := by decide +kernel
theorem dBk_plannedBefore_12 : decode cBk_plannedBefore 12 = .ok (.aload_n 0, 1) := by decide +kernel
theorem dBk_plannedBefore_13 : decode cBk_plannedBefore 13 = .ok (.getfield 17, 3) := by decide +kernel
theorem dBk_plannedBefore_16 : decode cBk_plannedBefore 16 = .ok (.iload_n 3, 1) := by decide +kernel
theorem dBk_plannedBefore_17 : decode cBk_plannedBefore 17 = .ok (.aaload, 1) := by decide +kernel
theorem dBk_plannedBefore_18 : decode cBk_plannedBefore 18 = .ok (.astore 4, 2) := by decide +kernel
theorem dBk_plannedBefore_20 : decode cBk_plannedBefore 20 = .ok (.aload 4, 2) := by decide +kernel
theorem dBk_plannedBefore_22 : decode cBk_plannedBefore 22 = .ok (.getfield 134, 3) := by decide +kernel
theorem dBk_plannedBefore_25 : decode cBk_plannedBefore 25 = .ok (.aload_n 1, 1) := by decide +kernel
theorem dBk_plannedBefore_26 : decode cBk_plannedBefore 26 = .ok (.getfield 134, 3) := by decide +kernel
theorem dBk_plannedBefore_29 : decode cBk_plannedBefore 29 = .ok (.if_icmp .lt 27, 3) := by decide +kernel
theorem dBk_plannedBefore_32 : decode cBk_plannedBefore 32 = .ok (.aload 4, 2) := by decide +kernel
theorem dBk_plannedBefore_34 : decode cBk_plannedBefore 34 = .ok (.getfield 134, 3) := by decide +kernel
theorem dBk_plannedBefore_37 : decode cBk_plannedBefore 37 = .ok (.aload_n 1, 1) := by decide +kernel
theorem dBk_plannedBefore_38 : decode cBk_plannedBefore 38 = .ok (.getfield 134, 3) := by decide +kernel
theorem dBk_plannedBefore_41 : decode cBk_plannedBefore 41 = .ok (.if_icmp .ne 19, 3) := by decide +kernel
theorem dBk_plannedBefore_44 : decode cBk_plannedBefore 44 = .ok (.aload 4, 2) := by decide +kernel
theorem dBk_plannedBefore_46 : decode cBk_plannedBefore 46 = .ok (.getfield 207, 3) := by decide +kernel
theorem dBk_plannedBefore_49 : decode cBk_plannedBefore 49 = .ok (.aload_n 1, 1) := by decide +kernel
theorem dBk_plannedBefore_50 : decode cBk_plannedBefore 50 = .ok (.getfield 207, 3) := by decide +kernel
theorem dBk_plannedBefore_53 : decode cBk_plannedBefore 53 = .ok (.if_icmp .ge 7, 3) := by decide +kernel
theorem dBk_plannedBefore_56 : decode cBk_plannedBefore 56 = .ok (.iconst 1, 1) := by decide +kernel
theorem dBk_plannedBefore_57 : decode cBk_plannedBefore 57 = .ok (.goto 4, 3) := by decide +kernel
theorem dBk_plannedBefore_60 : decode cBk_plannedBefore 60 = .ok (.iconst 0, 1) := by decide +kernel
theorem dBk_plannedBefore_61 : decode cBk_plannedBefore 61 = .ok (.istore 5, 2) := by decide +kernel
theorem dBk_plannedBefore_63 : decode cBk_plannedBefore 63 = .ok (.iload_n 2, 1) := by decide +kernel
theorem dBk_plannedBefore_64 : decode cBk_plannedBefore 64 = .ok (.aload 4, 2) := by decide +kernel
theorem dBk_plannedBefore_66 : decode cBk_plannedBefore 66 = .ok (.aload_n 1, 1) := by decide +kernel
theorem dBk_plannedBefore_67 : decode cBk_plannedBefore 67 = .ok (.getfield 127, 3) := by decide +kernel
theorem dBk_plannedBefore_70 : decode cBk_plannedBefore 70 = .ok (.invokevirtual 174, 3) := by decide +kernel
theorem dBk_plannedBefore_73 : decode cBk_plannedBefore 73 = .ok (.ifCond .eq 12, 3) := by decide +kernel
theorem dBk_plannedBefore_76 : decode cBk_plannedBefore 76 = .ok (.iload 5, 2) := by decide +kernel
theorem dBk_plannedBefore_78 : decode cBk_plannedBefore 78 = .ok (.ifCond .eq 7, 3) := by decide +kernel
theorem dBk_plannedBefore_81 : decode cBk_plannedBefore 81 = .ok (.iconst 1, 1) := by decide +kernel
theorem dBk_plannedBefore_82 : decode cBk_plannedBefore 82 = .ok (.goto 4, 3) := by decide +kernel
theorem dBk_plannedBefore_85 : decode cBk_plannedBefore 85 = .ok (.iconst 0, 1) := by decide +kernel
theorem dBk_plannedBefore_86 : decode cBk_plannedBefore 86 = .ok (.iadd, 1) := by decide +kernel
theorem dBk_plannedBefore_87 : decode cBk_plannedBefore 87 = .ok (.istore_n 2, 1) := by decide +kernel
theorem dBk_plannedBefore_88 : decode cBk_plannedBefore 88 = .ok (.iinc 3 1, 3) := by decide +kernel
theorem dBk_plannedBefore_91 : decode cBk_plannedBefore 91 = .ok (.goto (-87), 3) := by decide +kernel
theorem dBk_plannedBefore_94 : decode cBk_plannedBefore 94 = .ok (.iload_n 2, 1) := by decide +kernel
theorem dBk_plannedBefore_95 : decode cBk_plannedBefore 95 = .ok (.ireturn, 1) := by decide +kernel
abbrev cBk_planCost : ByteArray := prog_1_method_27_code
abbrev mBk_planCost : MD := (⟨"DockBook", "planCost", "()I"⟩, cBk_planCost, 3, some (.int), [])
theorem dBk_planCost_0 : decode cBk_planCost 0 = .ok (.iconst 0, 1) := by decide +kernel
theorem dBk_planCost_1 : decode cBk_planCost 1 = .ok (.istore_n 1, 1) := by decide +kernel
theorem dBk_planCost_2 : decode cBk_planCost 2 = .ok (.iconst 0, 1) := by decide +kernel
theorem dBk_planCost_3 : decode cBk_planCost 3 = .ok (.istore_n 2, 1) := by decide +kernel
theorem dBk_planCost_4 : decode cBk_planCost 4 = .ok (.iload_n 2, 1) := by decide +kernel
theorem dBk_planCost_5 : decode cBk_planCost 5 = .ok (.aload_n 0, 1) := by decide +kernel
theorem dBk_planCost_6 : decode cBk_planCost 6 = .ok (.getfield 35, 3) := by decide +kernel
theorem dBk_planCost_9 : decode cBk_planCost 9 = .ok (.if_icmp .ge 46, 3) := by decide +kernel
theorem dBk_planCost_12 : decode cBk_planCost 12 = .ok (.iload_n 1, 1) := by decide +kernel
theorem dBk_planCost_13 : decode cBk_planCost 13 = .ok (.aload_n 0, 1) := by decide +kernel
theorem dBk_planCost_14 : decode cBk_planCost 14 = .ok (.getfield 17, 3) := by decide +kernel
theorem dBk_planCost_17 : decode cBk_planCost 17 = .ok (.iload_n 2, 1) := by decide +kernel
theorem dBk_planCost_18 : decode cBk_planCost 18 = .ok (.aaload, 1) := by decide +kernel
theorem dBk_planCost_19 : decode cBk_planCost 19 = .ok (.getfield 107, 3) := by decide +kernel
theorem dBk_planCost_22 : decode cBk_planCost 22 = .ok (.ifCond .ne 24, 3) := by decide +kernel
theorem dBk_planCost_25 : decode cBk_planCost 25 = .ok (.aload_n 0, 1) := by decide +kernel
theorem dBk_planCost_26 : decode cBk_planCost 26 = .ok (.getfield 17, 3) := by decide +kernel
theorem dBk_planCost_29 : decode cBk_planCost 29 = .ok (.iload_n 2, 1) := by decide +kernel
theorem dBk_planCost_30 : decode cBk_planCost 30 = .ok (.aaload, 1) := by decide +kernel
theorem dBk_planCost_31 : decode cBk_planCost 31 = .ok (.aload_n 0, 1) := by decide +kernel
theorem dBk_planCost_32 : decode cBk_planCost 32 = .ok (.getfield 17, 3) := by decide +kernel
theorem dBk_planCost_35 : decode cBk_planCost 35 = .ok (.iload_n 2, 1) := by decide +kernel
theorem dBk_planCost_36 : decode cBk_planCost 36 = .ok (.aaload, 1) := by decide +kernel
theorem dBk_planCost_37 : decode cBk_planCost 37 = .ok (.getfield 134, 3) := by decide +kernel
theorem dBk_planCost_40 : decode cBk_planCost 40 = .ok (.invokevirtual 210, 3) := by decide +kernel
theorem dBk_planCost_43 : decode cBk_planCost 43 = .ok (.goto 4, 3) := by decide +kernel
theorem dBk_planCost_46 : decode cBk_planCost 46 = .ok (.iconst 0, 1) := by decide +kernel
theorem dBk_planCost_47 : decode cBk_planCost 47 = .ok (.iadd, 1) := by decide +kernel
theorem dBk_planCost_48 : decode cBk_planCost 48 = .ok (.istore_n 1, 1) := by decide +kernel
theorem dBk_planCost_49 : decode cBk_planCost 49 = .ok (.iinc 2 1, 3) := by decide +kernel
theorem dBk_planCost_52 : decode cBk_planCost 52 = .ok (.goto (-48), 3) := by decide +kernel
theorem dBk_planCost_55 : decode cBk_planCost 55 = .ok (.iload_n 1, 1) := by decide +kernel
theorem dBk_planCost_56 : decode cBk_planCost 56 = .ok (.ireturn, 1) := by decide +kernel
abbrev cBk_costAlone : ByteArray := prog_1_method_28_code
abbrev mBk_costAlone : MD := (⟨"DockBook", "costAlone", "(LDockBook$Truck;)I"⟩, cBk_costAlone, 5, some (.int), [])
theorem dBk_costAlone_0 : decode cBk_costAlone 0 = .ok (.sipush 5000, 3) := by decide +kernel
theorem dBk_costAlone_3 : decode cBk_costAlone 3 = .ok (.istore_n 2, 1) := by decide +kernel
theorem dBk_costAlone_4 : decode cBk_costAlone 4 = .ok (.iconst 0, 1) := by decide +kernel
theorem dBk_costAlone_5 : decode cBk_costAlone 5 = .ok (.istore_n 3, 1) := by decide +kernel
theorem dBk_costAlone_6 : decode cBk_costAlone 6 = .ok (.iload_n 3, 1) := by decide +kernel
theorem dBk_costAlone_7 : decode cBk_costAlone 7 = .ok (.aload_n 0, 1) := by decide +kernel
theorem dBk_costAlone_8 : decode cBk_costAlone 8 = .ok (.getfield 31, 3) := by decide +kernel
theorem dBk_costAlone_11 : decode cBk_costAlone 11 = .ok (.if_icmp .ge 45, 3) := by decide +kernel
theorem dBk_costAlone_14 : decode cBk_costAlone 14 = .ok (.aload_n 0, 1) := by decide +kernel
theorem dBk_costAlone_15 : decode cBk_costAlone 15 = .ok (.getfield 11, 3) := by decide +kernel
theorem dBk_costAlone_18 : decode cBk_costAlone 18 = .ok (.iload_n 3, 1) := by decide +kernel
theorem dBk_costAlone_19 : decode cBk_costAlone 19 = .ok (.aaload, 1) := by decide +kernel
theorem dBk_costAlone_20 : decode cBk_costAlone 20 = .ok (.aload_n 1, 1) := by decide +kernel
theorem dBk_costAlone_21 : decode cBk_costAlone 21 = .ok (.aload_n 0, 1) := by decide +kernel
theorem dBk_costAlone_22 : decode cBk_costAlone 22 = .ok (.getfield 11, 3) := by decide +kernel
theorem dBk_costAlone_25 : decode cBk_costAlone 25 = .ok (.iload_n 3, 1) := by decide +kernel
theorem dBk_costAlone_26 : decode cBk_costAlone 26 = .ok (.aaload, 1) := by decide +kernel
theorem dBk_costAlone_27 : decode cBk_costAlone 27 = .ok (.aload_n 0, 1) := by decide +kernel
theorem dBk_costAlone_28 : decode cBk_costAlone 28 = .ok (.getfield 38, 3) := by decide +kernel
theorem dBk_costAlone_31 : decode cBk_costAlone 31 = .ok (.invokevirtual 213, 3) := by decide +kernel
theorem dBk_costAlone_34 : decode cBk_costAlone 34 = .ok (.invokevirtual 216, 3) := by decide +kernel
theorem dBk_costAlone_37 : decode cBk_costAlone 37 = .ok (.istore 4, 2) := by decide +kernel
theorem dBk_costAlone_39 : decode cBk_costAlone 39 = .ok (.iload_n 2, 1) := by decide +kernel
theorem dBk_costAlone_40 : decode cBk_costAlone 40 = .ok (.aload_n 1, 1) := by decide +kernel
theorem dBk_costAlone_41 : decode cBk_costAlone 41 = .ok (.iload 4, 2) := by decide +kernel
theorem dBk_costAlone_43 : decode cBk_costAlone 43 = .ok (.invokevirtual 210, 3) := by decide +kernel
theorem dBk_costAlone_46 : decode cBk_costAlone 46 = .ok (.invokestatic 220, 3) := by decide +kernel
theorem dBk_costAlone_49 : decode cBk_costAlone 49 = .ok (.istore_n 2, 1) := by decide +kernel
theorem dBk_costAlone_50 : decode cBk_costAlone 50 = .ok (.iinc 3 1, 3) := by decide +kernel
theorem dBk_costAlone_53 : decode cBk_costAlone 53 = .ok (.goto (-47), 3) := by decide +kernel
theorem dBk_costAlone_56 : decode cBk_costAlone 56 = .ok (.iload_n 2, 1) := by decide +kernel
theorem dBk_costAlone_57 : decode cBk_costAlone 57 = .ok (.ireturn, 1) := by decide +kernel
abbrev cBk_mayBeCalled : ByteArray := prog_1_method_29_code
abbrev mBk_mayBeCalled : MD := (⟨"DockBook", "mayBeCalled", "(LDockBook$Truck;)Z"⟩, cBk_mayBeCalled, 3, some (.boolean), [])
theorem dBk_mayBeCalled_0 : decode cBk_mayBeCalled 0 = .ok (.aload_n 1, 1) := by decide +kernel
theorem dBk_mayBeCalled_1 : decode cBk_mayBeCalled 1 = .ok (.getfield 107, 3) := by decide +kernel
theorem dBk_mayBeCalled_4 : decode cBk_mayBeCalled 4 = .ok (.ifCond .ne 22, 3) := by decide +kernel
theorem dBk_mayBeCalled_7 : decode cBk_mayBeCalled 7 = .ok (.aload_n 1, 1) := by decide +kernel
theorem dBk_mayBeCalled_8 : decode cBk_mayBeCalled 8 = .ok (.getfield 127, 3) := by decide +kernel
theorem dBk_mayBeCalled_11 : decode cBk_mayBeCalled 11 = .ok (.iconst (-1), 1) := by decide +kernel
theorem dBk_mayBeCalled_12 : decode cBk_mayBeCalled 12 = .ok (.if_icmp .eq 14, 3) := by decide +kernel
theorem dBk_mayBeCalled_15 : decode cBk_mayBeCalled 15 = .ok (.aload_n 1, 1) := by decide +kernel
theorem dBk_mayBeCalled_16 : decode cBk_mayBeCalled 16 = .ok (.getfield 134, 3) := by decide +kernel
theorem dBk_mayBeCalled_19 : decode cBk_mayBeCalled 19 = .ok (.aload_n 0, 1) := by decide +kernel
theorem dBk_mayBeCalled_20 : decode cBk_mayBeCalled 20 = .ok (.getfield 38, 3) := by decide +kernel
theorem dBk_mayBeCalled_23 : decode cBk_mayBeCalled 23 = .ok (.if_icmp .le 5, 3) := by decide +kernel
theorem dBk_mayBeCalled_26 : decode cBk_mayBeCalled 26 = .ok (.iconst 0, 1) := by decide +kernel
theorem dBk_mayBeCalled_27 : decode cBk_mayBeCalled 27 = .ok (.ireturn, 1) := by decide +kernel
theorem dBk_mayBeCalled_28 : decode cBk_mayBeCalled 28 = .ok (.aload_n 0, 1) := by decide +kernel
theorem dBk_mayBeCalled_29 : decode cBk_mayBeCalled 29 = .ok (.aload_n 1, 1) := by decide +kernel
theorem dBk_mayBeCalled_30 : decode cBk_mayBeCalled 30 = .ok (.getfield 127, 3) := by decide +kernel
theorem dBk_mayBeCalled_33 : decode cBk_mayBeCalled 33 = .ok (.invokevirtual 130, 3) := by decide +kernel
theorem dBk_mayBeCalled_36 : decode cBk_mayBeCalled 36 = .ok (.astore_n 2, 1) := by decide +kernel
theorem dBk_mayBeCalled_37 : decode cBk_mayBeCalled 37 = .ok (.aload_n 2, 1) := by decide +kernel
theorem dBk_mayBeCalled_38 : decode cBk_mayBeCalled 38 = .ok (.getfield 169, 3) := by decide +kernel
theorem dBk_mayBeCalled_41 : decode cBk_mayBeCalled 41 = .ok (.ifCond .ne 31, 3) := by decide +kernel
theorem dBk_mayBeCalled_44 : decode cBk_mayBeCalled 44 = .ok (.aload_n 2, 1) := by decide +kernel
theorem dBk_mayBeCalled_45 : decode cBk_mayBeCalled 45 = .ok (.getfield 137, 3) := by decide +kernel
theorem dBk_mayBeCalled_48 : decode cBk_mayBeCalled 48 = .ok (.iconst (-1), 1) := by decide +kernel
theorem dBk_mayBeCalled_49 : decode cBk_mayBeCalled 49 = .ok (.if_icmp .ne 23, 3) := by decide +kernel
theorem dBk_mayBeCalled_52 : decode cBk_mayBeCalled 52 = .ok (.aload_n 0, 1) := by decide +kernel
theorem dBk_mayBeCalled_53 : decode cBk_mayBeCalled 53 = .ok (.getfield 38, 3) := by decide +kernel
theorem dBk_mayBeCalled_56 : decode cBk_mayBeCalled 56 = .ok (.aload_n 1, 1) := by decide +kernel
theorem dBk_mayBeCalled_57 : decode cBk_mayBeCalled 57 = .ok (.getfield 80, 3) := by decide +kernel
theorem dBk_mayBeCalled_60 : decode cBk_mayBeCalled 60 = .ok (.iadd, 1) := by decide +kernel
theorem dBk_mayBeCalled_61 : decode cBk_mayBeCalled 61 = .ok (.aload_n 2, 1) := by decide +kernel
theorem dBk_mayBeCalled_62 : decode cBk_mayBeCalled 62 = .ok (.getfield 69, 3) := by decide +kernel
theorem dBk_mayBeCalled_65 : decode cBk_mayBeCalled 65 = .ok (.if_icmp .gt 7, 3) := by decide +kernel
theorem dBk_mayBeCalled_68 : decode cBk_mayBeCalled 68 = .ok (.iconst 1, 1) := by decide +kernel
theorem dBk_mayBeCalled_69 : decode cBk_mayBeCalled 69 = .ok (.goto 4, 3) := by decide +kernel
theorem dBk_mayBeCalled_72 : decode cBk_mayBeCalled 72 = .ok (.iconst 0, 1) := by decide +kernel
theorem dBk_mayBeCalled_73 : decode cBk_mayBeCalled 73 = .ok (.ireturn, 1) := by decide +kernel
abbrev cBk_gatherWaiting : ByteArray := prog_1_method_30_code
abbrev mBk_gatherWaiting : MD := (⟨"DockBook", "gatherWaiting", "()I"⟩, cBk_gatherWaiting, 3, some (.int), [])
theorem dBk_gatherWaiting_0 : decode cBk_gatherWaiting 0 = .ok (.iconst 0, 1) := by decide +kernel
theorem dBk_gatherWaiting_1 : decode cBk_gatherWaiting 1 = .ok (.istore_n 1, 1) := by decide +kernel
theorem dBk_gatherWaiting_2 : decode cBk_gatherWaiting 2 = .ok (.iconst 0, 1) := by decide +kernel
theorem dBk_gatherWaiting_3 : decode cBk_gatherWaiting 3 = .ok (.istore_n 2, 1) := by decide +kernel
theorem dBk_gatherWaiting_4 : decode cBk_gatherWaiting 4 = .ok (.iload_n 2, 1) := by decide +kernel
theorem dBk_gatherWaiting_5 : decode cBk_gatherWaiting 5 = .ok (.aload_n 0, 1) := by decide +kernel
theorem dBk_gatherWaiting_6 : decode cBk_gatherWaiting 6 = .ok (.getfield 35, 3) := by decide +kernel
theorem dBk_gatherWaiting_9 : decode cBk_gatherWaiting 9 = .ok (.if_icmp .ge 36, 3) := by decide +kernel
theorem dBk_gatherWaiting_12 : decode cBk_gatherWaiting 12 = .ok (.aload_n 0, 1) := by decide +kernel
theorem dBk_gatherWaiting_13 : decode cBk_gatherWaiting 13 = .ok (.getfield 17, 3) := by decide +kernel
theorem dBk_gatherWaiting_16 : decode cBk_gatherWaiting 16 = .ok (.iload_n 2, 1) := by decide +kernel
theorem dBk_gatherWaiting_17 : decode cBk_gatherWaiting 17 = .ok (.aaload, 1) := by decide +kernel
theorem dBk_gatherWaiting_18 : decode cBk_gatherWaiting 18 = .ok (.getfield 107, 3) := by decide +kernel
theorem dBk_gatherWaiting_21 : decode cBk_gatherWaiting 21 = .ok (.ifCond .ne 18, 3) := by decide +kernel
theorem dBk_gatherWaiting_24 : decode cBk_gatherWaiting 24 = .ok (.aload_n 0, 1) := by decide +kernel
theorem dBk_gatherWaiting_25 : decode cBk_gatherWaiting 25 = .ok (.getfield 21, 3) := by decide +kernel
theorem dBk_gatherWaiting_28 : decode cBk_gatherWaiting 28 = .ok (.iload_n 1, 1) := by decide +kernel
theorem dBk_gatherWaiting_29 : decode cBk_gatherWaiting 29 = .ok (.aload_n 0, 1) := by decide +kernel
theorem dBk_gatherWaiting_30 : decode cBk_gatherWaiting 30 = .ok (.getfield 17, 3) := by decide +kernel
theorem dBk_gatherWaiting_33 : decode cBk_gatherWaiting 33 = .ok (.iload_n 2, 1) := by decide +kernel
theorem dBk_gatherWaiting_34 : decode cBk_gatherWaiting 34 = .ok (.aaload, 1) := by decide +kernel
theorem dBk_gatherWaiting_35 : decode cBk_gatherWaiting 35 = .ok (.aastore, 1) := by decide +kernel
theorem dBk_gatherWaiting_36 : decode cBk_gatherWaiting 36 = .ok (.iinc 1 1, 3) := by decide +kernel
theorem dBk_gatherWaiting_39 : decode cBk_gatherWaiting 39 = .ok (.iinc 2 1, 3) := by decide +kernel
theorem dBk_gatherWaiting_42 : decode cBk_gatherWaiting 42 = .ok (.goto (-38), 3) := by decide +kernel
theorem dBk_gatherWaiting_45 : decode cBk_gatherWaiting 45 = .ok (.iload_n 1, 1) := by decide +kernel
theorem dBk_gatherWaiting_46 : decode cBk_gatherWaiting 46 = .ok (.ireturn, 1) := by decide +kernel
abbrev cBk_planByRule : ByteArray := prog_1_method_31_code
abbrev mBk_planByRule : MD := (⟨"DockBook", "planByRule", "(I)V"⟩, cBk_planByRule, 3, none, [])
theorem dBk_planByRule_0 : decode cBk_planByRule 0 = .ok (.aload_n 0, 1) := by decide +kernel
theorem dBk_planByRule_1 : decode cBk_planByRule 1 = .ok (.iload_n 1, 1) := by decide +kernel
theorem dBk_planByRule_2 : decode cBk_planByRule 2 = .ok (.invokevirtual 226, 3) := by decide +kernel
theorem dBk_planByRule_5 : decode cBk_planByRule 5 = .ok (.iconst 0, 1) := by decide +kernel
theorem dBk_planByRule_6 : decode cBk_planByRule 6 = .ok (.istore_n 2, 1) := by decide +kernel
theorem dBk_planByRule_7 : decode cBk_planByRule 7 = .ok (.iload_n 2, 1) := by decide +kernel
theorem dBk_planByRule_8 : decode cBk_planByRule 8 = .ok (.aload_n 0, 1) := by decide +kernel
theorem dBk_planByRule_9 : decode cBk_planByRule 9 = .ok (.getfield 31, 3) := by decide +kernel
theorem dBk_planByRule_12 : decode cBk_planByRule 12 = .ok (.if_icmp .ge 31, 3) := by decide +kernel
theorem dBk_planByRule_15 : decode cBk_planByRule 15 = .ok (.aload_n 0, 1) := by decide +kernel
theorem dBk_planByRule_16 : decode cBk_planByRule 16 = .ok (.getfield 11, 3) := by decide +kernel
theorem dBk_planByRule_19 : decode cBk_planByRule 19 = .ok (.iload_n 2, 1) := by decide +kernel
theorem dBk_planByRule_20 : decode cBk_planByRule 20 = .ok (.aaload, 1) := by decide +kernel
theorem dBk_planByRule_21 : decode cBk_planByRule 21 = .ok (.aload_n 0, 1) := by decide +kernel
theorem dBk_planByRule_22 : decode cBk_planByRule 22 = .ok (.getfield 11, 3) := by decide +kernel
theorem dBk_planByRule_25 : decode cBk_planByRule 25 = .ok (.iload_n 2, 1) := by decide +kernel
theorem dBk_planByRule_26 : decode cBk_planByRule 26 = .ok (.aaload, 1) := by decide +kernel
theorem dBk_planByRule_27 : decode cBk_planByRule 27 = .ok (.aload_n 0, 1) := by decide +kernel
theorem dBk_planByRule_28 : decode cBk_planByRule 28 = .ok (.getfield 38, 3) := by decide +kernel
theorem dBk_planByRule_31 : decode cBk_planByRule 31 = .ok (.invokevirtual 213, 3) := by decide +kernel
theorem dBk_planByRule_34 : decode cBk_planByRule 34 = .ok (.putfield 229, 3) := by decide +kernel
theorem dBk_planByRule_37 : decode cBk_planByRule 37 = .ok (.iinc 2 1, 3) := by decide +kernel
theorem dBk_planByRule_40 : decode cBk_planByRule 40 = .ok (.goto (-33), 3) := by decide +kernel
theorem dBk_planByRule_43 : decode cBk_planByRule 43 = .ok (.iconst 0, 1) := by decide +kernel
theorem dBk_planByRule_44 : decode cBk_planByRule 44 = .ok (.istore_n 2, 1) := by decide +kernel
theorem dBk_planByRule_45 : decode cBk_planByRule 45 = .ok (.iload_n 2, 1) := by decide +kernel
theorem dBk_planByRule_46 : decode cBk_planByRule 46 = .ok (.iload_n 1, 1) := by decide +kernel
theorem dBk_planByRule_47 : decode cBk_planByRule 47 = .ok (.if_icmp .ge 19, 3) := by decide +kernel
theorem dBk_planByRule_50 : decode cBk_planByRule 50 = .ok (.aload_n 0, 1) := by decide +kernel
theorem dBk_planByRule_51 : decode cBk_planByRule 51 = .ok (.aload_n 0, 1) := by decide +kernel
theorem dBk_planByRule_52 : decode cBk_planByRule 52 = .ok (.getfield 21, 3) := by decide +kernel
theorem dBk_planByRule_55 : decode cBk_planByRule 55 = .ok (.iload_n 2, 1) := by decide +kernel
theorem dBk_planByRule_56 : decode cBk_planByRule 56 = .ok (.aaload, 1) := by decide +kernel
theorem dBk_planByRule_57 : decode cBk_planByRule 57 = .ok (.invokevirtual 232, 3) := by decide +kernel
theorem dBk_planByRule_60 : decode cBk_planByRule 60 = .ok (.iinc 2 1, 3) := by decide +kernel
theorem dBk_planByRule_63 : decode cBk_planByRule 63 = .ok (.goto (-18), 3) := by decide +kernel
theorem dBk_planByRule_66 : decode cBk_planByRule 66 = .ok (.return_, 1) := by decide +kernel
abbrev cBk_sortByRule : ByteArray := prog_1_method_32_code
abbrev mBk_sortByRule : MD := (⟨"DockBook", "sortByRule", "(I)V"⟩, cBk_sortByRule, 5, none, [])
theorem dBk_sortByRule_0 : decode cBk_sortByRule 0 = .ok (.iconst 1, 1) := by decide +kernel
theorem dBk_sortByRule_1 : decode cBk_sortByRule 1 = .ok (.istore_n 2, 1) := by decide +kernel
theorem dBk_sortByRule_2 : decode cBk_sortByRule 2 = .ok (.iload_n 2, 1) := by decide +kernel
theorem dBk_sortByRule_3 : decode cBk_sortByRule 3 = .ok (.iload_n 1, 1) := by decide +kernel
theorem dBk_sortByRule_4 : decode cBk_sortByRule 4 = .ok (.if_icmp .ge 70, 3) := by decide +kernel
theorem dBk_sortByRule_7 : decode cBk_sortByRule 7 = .ok (.aload_n 0, 1) := by decide +kernel
theorem dBk_sortByRule_8 : decode cBk_sortByRule 8 = .ok (.getfield 21, 3) := by decide +kernel
theorem dBk_sortByRule_11 : decode cBk_sortByRule 11 = .ok (.iload_n 2, 1) := by decide +kernel
theorem dBk_sortByRule_12 : decode cBk_sortByRule 12 = .ok (.aaload, 1) := by decide +kernel
theorem dBk_sortByRule_13 : decode cBk_sortByRule 13 = .ok (.astore_n 3, 1) := by decide +kernel
theorem dBk_sortByRule_14 : decode cBk_sortByRule 14 = .ok (.iload_n 2, 1) := by decide +kernel
theorem dBk_sortByRule_15 : decode cBk_sortByRule 15 = .ok (.istore 4, 2) := by decide +kernel
theorem dBk_sortByRule_17 : decode cBk_sortByRule 17 = .ok (.iload 4, 2) := by decide +kernel
theorem dBk_sortByRule_19 : decode cBk_sortByRule 19 = .ok (.ifCond .le 41, 3) := by decide +kernel
theorem dBk_sortByRule_22 : decode cBk_sortByRule 22 = .ok (.aload_n 3, 1) := by decide +kernel
theorem dBk_sortByRule_23 : decode cBk_sortByRule 23 = .ok (.aload_n 0, 1) := by decide +kernel
theorem dBk_sortByRule_24 : decode cBk_sortByRule 24 = .ok (.getfield 21, 3) := by decide +kernel
theorem dBk_sortByRule_27 : decode cBk_sortByRule 27 = .ok (.iload 4, 2) := by decide +kernel
theorem dBk_sortByRule_29 : decode cBk_sortByRule 29 = .ok (.iconst 1, 1) := by decide +kernel
theorem dBk_sortByRule_30 : decode cBk_sortByRule 30 = .ok (.isub, 1) := by decide +kernel
theorem dBk_sortByRule_31 : decode cBk_sortByRule 31 = .ok (.aaload, 1) := by decide +kernel
theorem dBk_sortByRule_32 : decode cBk_sortByRule 32 = .ok (.invokevirtual 236, 3) := by decide +kernel
theorem dBk_sortByRule_35 : decode cBk_sortByRule 35 = .ok (.ifCond .eq 25, 3) := by decide +kernel
theorem dBk_sortByRule_38 : decode cBk_sortByRule 38 = .ok (.aload_n 0, 1) := by decide +kernel
theorem dBk_sortByRule_39 : decode cBk_sortByRule 39 = .ok (.getfield 21, 3) := by decide +kernel
theorem dBk_sortByRule_42 : decode cBk_sortByRule 42 = .ok (.iload 4, 2) := by decide +kernel
theorem dBk_sortByRule_44 : decode cBk_sortByRule 44 = .ok (.aload_n 0, 1) := by decide +kernel
theorem dBk_sortByRule_45 : decode cBk_sortByRule 45 = .ok (.getfield 21, 3) := by decide +kernel
theorem dBk_sortByRule_48 : decode cBk_sortByRule 48 = .ok (.iload 4, 2) := by decide +kernel
theorem dBk_sortByRule_50 : decode cBk_sortByRule 50 = .ok (.iconst 1, 1) := by decide +kernel
theorem dBk_sortByRule_51 : decode cBk_sortByRule 51 = .ok (.isub, 1) := by decide +kernel
theorem dBk_sortByRule_52 : decode cBk_sortByRule 52 = .ok (.aaload, 1) := by decide +kernel
theorem dBk_sortByRule_53 : decode cBk_sortByRule 53 = .ok (.aastore, 1) := by decide +kernel
theorem dBk_sortByRule_54 : decode cBk_sortByRule 54 = .ok (.iinc 4 (-1), 3) := by decide +kernel
theorem dBk_sortByRule_57 : decode cBk_sortByRule 57 = .ok (.goto (-40), 3) := by decide +kernel
theorem dBk_sortByRule_60 : decode cBk_sortByRule 60 = .ok (.aload_n 0, 1) := by decide +kernel
theorem dBk_sortByRule_61 : decode cBk_sortByRule 61 = .ok (.getfield 21, 3) := by decide +kernel
theorem dBk_sortByRule_64 : decode cBk_sortByRule 64 = .ok (.iload 4, 2) := by decide +kernel
theorem dBk_sortByRule_66 : decode cBk_sortByRule 66 = .ok (.aload_n 3, 1) := by decide +kernel
theorem dBk_sortByRule_67 : decode cBk_sortByRule 67 = .ok (.aastore, 1) := by decide +kernel
theorem dBk_sortByRule_68 : decode cBk_sortByRule 68 = .ok (.iinc 2 1, 3) := by decide +kernel
theorem dBk_sortByRule_71 : decode cBk_sortByRule 71 = .ok (.goto (-69), 3) := by decide +kernel
theorem dBk_sortByRule_74 : decode cBk_sortByRule 74 = .ok (.return_, 1) := by decide +kernel
abbrev cBk_placeByRule : ByteArray := prog_1_method_33_code
abbrev mBk_placeByRule : MD := (⟨"DockBook", "placeByRule", "(LDockBook$Truck;)V"⟩, cBk_placeByRule, 6, none, [])
theorem dBk_placeByRule_0 : decode cBk_placeByRule 0 = .ok (.iconst (-1), 1) := by decide +kernel
theorem dBk_placeByRule_1 : decode cBk_placeByRule 1 = .ok (.istore_n 2, 1) := by decide +kernel
theorem dBk_placeByRule_2 : decode cBk_placeByRule 2 = .ok (.iconst (-1), 1) := by decide +kernel
theorem dBk_placeByRule_3 : decode cBk_placeByRule 3 = .ok (.istore_n 3, 1) := by decide +kernel
theorem dBk_placeByRule_4 : decode cBk_placeByRule 4 = .ok (.iconst 0, 1) := by decide +kernel
theorem dBk_placeByRule_5 : decode cBk_placeByRule 5 = .ok (.istore 4, 2) := by decide +kernel
theorem dBk_placeByRule_7 : decode cBk_placeByRule 7 = .ok (.iload 4, 2) := by decide +kernel
theorem dBk_placeByRule_9 : decode cBk_placeByRule 9 = .ok (.aload_n 0, 1) := by decide +kernel
theorem dBk_placeByRule_10 : decode cBk_placeByRule 10 = .ok (.getfield 31, 3) := by decide +kernel
theorem dBk_placeByRule_13 : decode cBk_placeByRule 13 = .ok (.if_icmp .ge 55, 3) := by decide +kernel
theorem dBk_placeByRule_16 : decode cBk_placeByRule 16 = .ok (.aload_n 0, 1) := by decide +kernel
theorem dBk_placeByRule_17 : decode cBk_placeByRule 17 = .ok (.getfield 11, 3) := by decide +kernel
theorem dBk_placeByRule_20 : decode cBk_placeByRule 20 = .ok (.iload 4, 2) := by decide +kernel
theorem dBk_placeByRule_22 : decode cBk_placeByRule 22 = .ok (.aaload, 1) := by decide +kernel
theorem dBk_placeByRule_23 : decode cBk_placeByRule 23 = .ok (.aload_n 1, 1) := by decide +kernel
theorem dBk_placeByRule_24 : decode cBk_placeByRule 24 = .ok (.aload_n 0, 1) := by decide +kernel
theorem dBk_placeByRule_25 : decode cBk_placeByRule 25 = .ok (.getfield 11, 3) := by decide +kernel
theorem dBk_placeByRule_28 : decode cBk_placeByRule 28 = .ok (.iload 4, 2) := by decide +kernel
theorem dBk_placeByRule_30 : decode cBk_placeByRule 30 = .ok (.aaload, 1) := by decide +kernel
theorem dBk_placeByRule_31 : decode cBk_placeByRule 31 = .ok (.getfield 229, 3) := by decide +kernel
theorem dBk_placeByRule_34 : decode cBk_placeByRule 34 = .ok (.invokevirtual 216, 3) := by decide +kernel
theorem dBk_placeByRule_37 : decode cBk_placeByRule 37 = .ok (.istore 5, 2) := by decide +kernel
theorem dBk_placeByRule_39 : decode cBk_placeByRule 39 = .ok (.iload 5, 2) := by decide +kernel
theorem dBk_placeByRule_41 : decode cBk_placeByRule 41 = .ok (.iconst (-1), 1) := by decide +kernel
theorem dBk_placeByRule_42 : decode cBk_placeByRule 42 = .ok (.if_icmp .eq 20, 3) := by decide +kernel
theorem dBk_placeByRule_45 : decode cBk_placeByRule 45 = .ok (.iload_n 2, 1) := by decide +kernel
theorem dBk_placeByRule_46 : decode cBk_placeByRule 46 = .ok (.iconst (-1), 1) := by decide +kernel
theorem dBk_placeByRule_47 : decode cBk_placeByRule 47 = .ok (.if_icmp .eq 9, 3) := by decide +kernel
theorem dBk_placeByRule_50 : decode cBk_placeByRule 50 = .ok (.iload 5, 2) := by decide +kernel
theorem dBk_placeByRule_52 : decode cBk_placeByRule 52 = .ok (.iload_n 3, 1) := by decide +kernel
theorem dBk_placeByRule_53 : decode cBk_placeByRule 53 = .ok (.if_icmp .ge 9, 3) := by decide +kernel
theorem dBk_placeByRule_56 : decode cBk_placeByRule 56 = .ok (.iload 4, 2) := by decide +kernel
theorem dBk_placeByRule_58 : decode cBk_placeByRule 58 = .ok (.istore_n 2, 1) := by decide +kernel
theorem dBk_placeByRule_59 : decode cBk_placeByRule 59 = .ok (.iload 5, 2) := by decide +kernel
theorem dBk_placeByRule_61 : decode cBk_placeByRule 61 = .ok (.istore_n 3, 1) := by decide +kernel
theorem dBk_placeByRule_62 : decode cBk_placeByRule 62 = .ok (.iinc 4 1, 3) := by decide +kernel
theorem dBk_placeByRule_65 : decode cBk_placeByRule 65 = .ok (.goto (-58), 3) := by decide +kernel
theorem dBk_placeByRule_68 : decode cBk_placeByRule 68 = .ok (.aload_n 1, 1) := by decide +kernel
theorem dBk_placeByRule_69 : decode cBk_placeByRule 69 = .ok (.iload_n 2, 1) := by decide +kernel
theorem dBk_placeByRule_70 : decode cBk_placeByRule 70 = .ok (.iload_n 3, 1) := by decide +kernel
theorem dBk_placeByRule_71 : decode cBk_placeByRule 71 = .ok (.invokevirtual 165, 3) := by decide +kernel
theorem dBk_placeByRule_74 : decode cBk_placeByRule 74 = .ok (.iload_n 2, 1) := by decide +kernel
theorem dBk_placeByRule_75 : decode cBk_placeByRule 75 = .ok (.iconst (-1), 1) := by decide +kernel
theorem dBk_placeByRule_76 : decode cBk_placeByRule 76 = .ok (.if_icmp .eq 18, 3) := by decide +kernel
theorem dBk_placeByRule_79 : decode cBk_placeByRule 79 = .ok (.aload_n 0, 1) := by decide +kernel
theorem dBk_placeByRule_80 : decode cBk_placeByRule 80 = .ok (.getfield 11, 3) := by decide +kernel
theorem dBk_placeByRule_83 : decode cBk_placeByRule 83 = .ok (.iload_n 2, 1) := by decide +kernel
theorem dBk_placeByRule_84 : decode cBk_placeByRule 84 = .ok (.aaload, 1) := by decide +kernel
theorem dBk_placeByRule_85 : decode cBk_placeByRule 85 = .ok (.iload_n 3, 1) := by decide +kernel
theorem dBk_placeByRule_86 : decode cBk_placeByRule 86 = .ok (.aload_n 1, 1) := by decide +kernel
theorem dBk_placeByRule_87 : decode cBk_placeByRule 87 = .ok (.getfield 80, 3) := by decide +kernel
theorem dBk_placeByRule_90 : decode cBk_placeByRule 90 = .ok (.iadd, 1) := by decide +kernel
theorem dBk_placeByRule_91 : decode cBk_placeByRule 91 = .ok (.putfield 229, 3) := by decide +kernel
theorem dBk_placeByRule_94 : decode cBk_placeByRule 94 = .ok (.return_, 1) := by decide +kernel
abbrev cDo_init : ByteArray := prog_2_method_1_code
abbrev mDo_init : MD := (⟨"DockBook$Door", "<init>", "()V"⟩, cDo_init, 1, none, [])
theorem dDo_init_0 : decode cDo_init 0 = .ok (.aload_n 0, 1) := by decide +kernel
theorem dDo_init_1 : decode cDo_init 1 = .ok (.invokespecial 3, 3) := by decide +kernel
theorem dDo_init_4 : decode cDo_init 4 = .ok (.aload_n 0, 1) := by decide +kernel
theorem dDo_init_5 : decode cDo_init 5 = .ok (.iconst 0, 1) := by decide +kernel
theorem dDo_init_6 : decode cDo_init 6 = .ok (.putfield 9, 3) := by decide +kernel
theorem dDo_init_9 : decode cDo_init 9 = .ok (.aload_n 0, 1) := by decide +kernel
theorem dDo_init_10 : decode cDo_init 10 = .ok (.iconst 0, 1) := by decide +kernel
theorem dDo_init_11 : decode cDo_init 11 = .ok (.putfield 15, 3) := by decide +kernel
theorem dDo_init_14 : decode cDo_init 14 = .ok (.aload_n 0, 1) := by decide +kernel
theorem dDo_init_15 : decode cDo_init 15 = .ok (.iconst 0, 1) := by decide +kernel
theorem dDo_init_16 : decode cDo_init 16 = .ok (.putfield 18, 3) := by decide +kernel
theorem dDo_init_19 : decode cDo_init 19 = .ok (.aload_n 0, 1) := by decide +kernel
theorem dDo_init_20 : decode cDo_init 20 = .ok (.iconst 0, 1) := by decide +kernel
theorem dDo_init_21 : decode cDo_init 21 = .ok (.putfield 21, 3) := by decide +kernel
theorem dDo_init_24 : decode cDo_init 24 = .ok (.aload_n 0, 1) := by decide +kernel
theorem dDo_init_25 : decode cDo_init 25 = .ok (.iconst (-1), 1) := by decide +kernel
theorem dDo_init_26 : decode cDo_init 26 = .ok (.putfield 25, 3) := by decide +kernel
theorem dDo_init_29 : decode cDo_init 29 = .ok (.aload_n 0, 1) := by decide +kernel
theorem dDo_init_30 : decode cDo_init 30 = .ok (.iconst 0, 1) := by decide +kernel
theorem dDo_init_31 : decode cDo_init 31 = .ok (.putfield 28, 3) := by decide +kernel
theorem dDo_init_34 : decode cDo_init 34 = .ok (.aload_n 0, 1) := by decide +kernel
theorem dDo_init_35 : decode cDo_init 35 = .ok (.iconst 0, 1) := by decide +kernel
theorem dDo_init_36 : decode cDo_init 36 = .ok (.putfield 31, 3) := by decide +kernel
theorem dDo_init_39 : decode cDo_init 39 = .ok (.aload_n 0, 1) := by decide +kernel
theorem dDo_init_40 : decode cDo_init 40 = .ok (.iconst 0, 1) := by decide +kernel
theorem dDo_init_41 : decode cDo_init 41 = .ok (.putfield 34, 3) := by decide +kernel
theorem dDo_init_44 : decode cDo_init 44 = .ok (.return_, 1) := by decide +kernel
abbrev cDo_readyAt : ByteArray := prog_2_method_2_code
abbrev mDo_readyAt : MD := (⟨"DockBook$Door", "readyAt", "(I)I"⟩, cDo_readyAt, 2, some (.int), [])
theorem dDo_readyAt_0 : decode cDo_readyAt 0 = .ok (.aload_n 0, 1) := by decide +kernel
theorem dDo_readyAt_1 : decode cDo_readyAt 1 = .ok (.getfield 15, 3) := by decide +kernel
theorem dDo_readyAt_4 : decode cDo_readyAt 4 = .ok (.aload_n 0, 1) := by decide +kernel
theorem dDo_readyAt_5 : decode cDo_readyAt 5 = .ok (.getfield 28, 3) := by decide +kernel
theorem dDo_readyAt_8 : decode cDo_readyAt 8 = .ok (.iload_n 1, 1) := by decide +kernel
theorem dDo_readyAt_9 : decode cDo_readyAt 9 = .ok (.invokestatic 37, 3) := by decide +kernel
theorem dDo_readyAt_12 : decode cDo_readyAt 12 = .ok (.invokestatic 37, 3) := by decide +kernel
theorem dDo_readyAt_15 : decode cDo_readyAt 15 = .ok (.ireturn, 1) := by decide +kernel
abbrev cDo_startOf : ByteArray := prog_2_method_3_code
abbrev mDo_startOf : MD := (⟨"DockBook$Door", "startOf", "(LDockBook$Truck;I)I"⟩, cDo_startOf, 4, some (.int), [])
theorem dDo_startOf_0 : decode cDo_startOf 0 = .ok (.aload_n 0, 1) := by decide +kernel
theorem dDo_startOf_1 : decode cDo_startOf 1 = .ok (.getfield 21, 3) := by decide +kernel
theorem dDo_startOf_4 : decode cDo_startOf 4 = .ok (.ifCond .ne 17, 3) := by decide +kernel
theorem dDo_startOf_7 : decode cDo_startOf 7 = .ok (.aload_n 0, 1) := by decide +kernel
theorem dDo_startOf_8 : decode cDo_startOf 8 = .ok (.getfield 9, 3) := by decide +kernel
theorem dDo_startOf_11 : decode cDo_startOf 11 = .ok (.iconst 1, 1) := by decide +kernel
theorem dDo_startOf_12 : decode cDo_startOf 12 = .ok (.aload_n 1, 1) := by decide +kernel
theorem dDo_startOf_13 : decode cDo_startOf 13 = .ok (.getfield 43, 3) := by decide +kernel
theorem dDo_startOf_16 : decode cDo_startOf 16 = .ok (.ishl, 1) := by decide +kernel
theorem dDo_startOf_17 : decode cDo_startOf 17 = .ok (.iand, 1) := by decide +kernel
theorem dDo_startOf_18 : decode cDo_startOf 18 = .ok (.ifCond .ne 5, 3) := by decide +kernel
theorem dDo_startOf_21 : decode cDo_startOf 21 = .ok (.iconst (-1), 1) := by decide +kernel
theorem dDo_startOf_22 : decode cDo_startOf 22 = .ok (.ireturn, 1) := by decide +kernel
theorem dDo_startOf_23 : decode cDo_startOf 23 = .ok (.aload_n 1, 1) := by decide +kernel
theorem dDo_startOf_24 : decode cDo_startOf 24 = .ok (.getfield 48, 3) := by decide +kernel
theorem dDo_startOf_27 : decode cDo_startOf 27 = .ok (.iload_n 2, 1) := by decide +kernel
theorem dDo_startOf_28 : decode cDo_startOf 28 = .ok (.invokestatic 37, 3) := by decide +kernel
theorem dDo_startOf_31 : decode cDo_startOf 31 = .ok (.istore_n 3, 1) := by decide +kernel
theorem dDo_startOf_32 : decode cDo_startOf 32 = .ok (.iload_n 3, 1) := by decide +kernel
theorem dDo_startOf_33 : decode cDo_startOf 33 = .ok (.aload_n 1, 1) := by decide +kernel
theorem dDo_startOf_34 : decode cDo_startOf 34 = .ok (.getfield 51, 3) := by decide +kernel
theorem dDo_startOf_37 : decode cDo_startOf 37 = .ok (.iadd, 1) := by decide +kernel
theorem dDo_startOf_38 : decode cDo_startOf 38 = .ok (.aload_n 0, 1) := by decide +kernel
theorem dDo_startOf_39 : decode cDo_startOf 39 = .ok (.getfield 18, 3) := by decide +kernel
theorem dDo_startOf_42 : decode cDo_startOf 42 = .ok (.if_icmp .gt 7, 3) := by decide +kernel
theorem dDo_startOf_45 : decode cDo_startOf 45 = .ok (.iload_n 3, 1) := by decide +kernel
theorem dDo_startOf_46 : decode cDo_startOf 46 = .ok (.goto 4, 3) := by decide +kernel
theorem dDo_startOf_49 : decode cDo_startOf 49 = .ok (.iconst (-1), 1) := by decide +kernel
theorem dDo_startOf_50 : decode cDo_startOf 50 = .ok (.ireturn, 1) := by decide +kernel
abbrev cCh_init : ByteArray := prog_3_method_1_code
abbrev mCh_init : MD := (⟨"DockBook$DoorChoice", "<init>", "()V"⟩, cCh_init, 2, none, [])
theorem dCh_init_0 : decode cCh_init 0 = .ok (.aload_n 0, 1) := by decide +kernel
theorem dCh_init_1 : decode cCh_init 1 = .ok (.invokespecial 3, 3) := by decide +kernel
theorem dCh_init_4 : decode cCh_init 4 = .ok (.aload_n 0, 1) := by decide +kernel
theorem dCh_init_5 : decode cCh_init 5 = .ok (.iconst 4, 1) := by decide +kernel
theorem dCh_init_6 : decode cCh_init 6 = .ok (.anewarray 9, 3) := by decide +kernel
theorem dCh_init_9 : decode cCh_init 9 = .ok (.putfield 11, 3) := by decide +kernel
theorem dCh_init_12 : decode cCh_init 12 = .ok (.aload_n 0, 1) := by decide +kernel
theorem dCh_init_13 : decode cCh_init 13 = .ok (.iconst 4, 1) := by decide +kernel
theorem dCh_init_14 : decode cCh_init 14 = .ok (.newarray .int, 2) := by decide +kernel
theorem dCh_init_16 : decode cCh_init 16 = .ok (.putfield 17, 3) := by decide +kernel
theorem dCh_init_19 : decode cCh_init 19 = .ok (.aload_n 0, 1) := by decide +kernel
theorem dCh_init_20 : decode cCh_init 20 = .ok (.iconst 5, 1) := by decide +kernel
theorem dCh_init_21 : decode cCh_init 21 = .ok (.newarray .int, 2) := by decide +kernel
theorem dCh_init_23 : decode cCh_init 23 = .ok (.putfield 21, 3) := by decide +kernel
theorem dCh_init_26 : decode cCh_init 26 = .ok (.aload_n 0, 1) := by decide +kernel
theorem dCh_init_27 : decode cCh_init 27 = .ok (.iconst 5, 1) := by decide +kernel
theorem dCh_init_28 : decode cCh_init 28 = .ok (.newarray .int, 2) := by decide +kernel
theorem dCh_init_30 : decode cCh_init 30 = .ok (.putfield 24, 3) := by decide +kernel
theorem dCh_init_33 : decode cCh_init 33 = .ok (.aload_n 0, 1) := by decide +kernel
theorem dCh_init_34 : decode cCh_init 34 = .ok (.ldc 27, 2) := by decide +kernel
theorem dCh_init_36 : decode cCh_init 36 = .ok (.putfield 28, 3) := by decide +kernel
theorem dCh_init_39 : decode cCh_init 39 = .ok (.iconst 0, 1) := by decide +kernel
theorem dCh_init_40 : decode cCh_init 40 = .ok (.istore_n 1, 1) := by decide +kernel
theorem dCh_init_41 : decode cCh_init 41 = .ok (.iload_n 1, 1) := by decide +kernel
theorem dCh_init_42 : decode cCh_init 42 = .ok (.iconst 4, 1) := by decide +kernel
theorem dCh_init_43 : decode cCh_init 43 = .ok (.if_icmp .ge 22, 3) := by decide +kernel
theorem dCh_init_46 : decode cCh_init 46 = .ok (.aload_n 0, 1) := by decide +kernel
theorem dCh_init_47 : decode cCh_init 47 = .ok (.getfield 11, 3) := by decide +kernel
theorem dCh_init_50 : decode cCh_init 50 = .ok (.iload_n 1, 1) := by decide +kernel
theorem dCh_init_51 : decode cCh_init 51 = .ok (.new 9, 3) := by decide +kernel
theorem dCh_init_54 : decode cCh_init 54 = .ok (.dup, 1) := by decide +kernel
theorem dCh_init_55 : decode cCh_init 55 = .ok (.invokespecial 32, 3) := by decide +kernel
theorem dCh_init_58 : decode cCh_init 58 = .ok (.aastore, 1) := by decide +kernel
theorem dCh_init_59 : decode cCh_init 59 = .ok (.iinc 1 1, 3) := by decide +kernel
theorem dCh_init_62 : decode cCh_init 62 = .ok (.goto (-21), 3) := by decide +kernel
theorem dCh_init_65 : decode cCh_init 65 = .ok (.return_, 1) := by decide +kernel
abbrev cCh_planExactly : ByteArray := prog_3_method_2_code
abbrev mCh_planExactly : MD := (⟨"DockBook$DoorChoice", "planExactly", "([LDockBook$Door;I[LDockBook$Truck;II)V"⟩, cCh_planExactly, 8, none, [])
theorem dCh_planExactly_0 : decode cCh_planExactly 0 = .ok (.iconst 0, 1) := by decide +kernel
theorem dCh_planExactly_1 : decode cCh_planExactly 1 = .ok (.istore 6, 2) := by decide +kernel
theorem dCh_planExactly_3 : decode cCh_planExactly 3 = .ok (.iload 6, 2) := by decide +kernel
theorem dCh_planExactly_5 : decode cCh_planExactly 5 = .ok (.iload_n 2, 1) := by decide +kernel
theorem dCh_planExactly_6 : decode cCh_planExactly 6 = .ok (.if_icmp .ge 43, 3) := by decide +kernel
theorem dCh_planExactly_9 : decode cCh_planExactly 9 = .ok (.aload_n 0, 1) := by decide +kernel
theorem dCh_planExactly_10 : decode cCh_planExactly 10 = .ok (.getfield 11, 3) := by decide +kernel
theorem dCh_planExactly_13 : decode cCh_planExactly 13 = .ok (.iload 6, 2) := by decide +kernel
theorem dCh_planExactly_15 : decode cCh_planExactly 15 = .ok (.aaload, 1) := by decide +kernel
theorem dCh_planExactly_16 : decode cCh_planExactly 16 = .ok (.aload_n 1, 1) := by decide +kernel
theorem dCh_planExactly_17 : decode cCh_planExactly 17 = .ok (.iload 6, 2) := by decide +kernel
theorem dCh_planExactly_19 : decode cCh_planExactly 19 = .ok (.aaload, 1) := by decide +kernel
theorem dCh_planExactly_20 : decode cCh_planExactly 20 = .ok (.aload_n 3, 1) := by decide +kernel
theorem dCh_planExactly_21 : decode cCh_planExactly 21 = .ok (.iload 4, 2) := by decide +kernel
theorem dCh_planExactly_23 : decode cCh_planExactly 23 = .ok (.aload_n 1, 1) := by decide +kernel
theorem dCh_planExactly_24 : decode cCh_planExactly 24 = .ok (.iload 6, 2) := by decide +kernel
theorem dCh_planExactly_26 : decode cCh_planExactly 26 = .ok (.aaload, 1) := by decide +kernel
theorem dCh_planExactly_27 : decode cCh_planExactly 27 = .ok (.iload 5, 2) := by decide +kernel
theorem dCh_planExactly_29 : decode cCh_planExactly 29 = .ok (.invokevirtual 33, 3) := by decide +kernel
theorem dCh_planExactly_32 : decode cCh_planExactly 32 = .ok (.invokevirtual 39, 3) := by decide +kernel
theorem dCh_planExactly_35 : decode cCh_planExactly 35 = .ok (.aload_n 0, 1) := by decide +kernel
theorem dCh_planExactly_36 : decode cCh_planExactly 36 = .ok (.getfield 17, 3) := by decide +kernel
theorem dCh_planExactly_39 : decode cCh_planExactly 39 = .ok (.iload 6, 2) := by decide +kernel
theorem dCh_planExactly_41 : decode cCh_planExactly 41 = .ok (.iconst 0, 1) := by decide +kernel
theorem dCh_planExactly_42 : decode cCh_planExactly 42 = .ok (.iastore, 1) := by decide +kernel
theorem dCh_planExactly_43 : decode cCh_planExactly 43 = .ok (.iinc 6 1, 3) := by decide +kernel
theorem dCh_planExactly_46 : decode cCh_planExactly 46 = .ok (.goto (-43), 3) := by decide +kernel
theorem dCh_planExactly_49 : decode cCh_planExactly 49 = .ok (.aload_n 0, 1) := by decide +kernel
theorem dCh_planExactly_50 : decode cCh_planExactly 50 = .ok (.ldc 27, 2) := by decide +kernel
theorem dCh_planExactly_52 : decode cCh_planExactly 52 = .ok (.putfield 28, 3) := by decide +kernel
theorem dCh_planExactly_55 : decode cCh_planExactly 55 = .ok (.aload_n 0, 1) := by decide +kernel
theorem dCh_planExactly_56 : decode cCh_planExactly 56 = .ok (.iload_n 2, 1) := by decide +kernel
theorem dCh_planExactly_57 : decode cCh_planExactly 57 = .ok (.iload 4, 2) := by decide +kernel
theorem dCh_planExactly_59 : decode cCh_planExactly 59 = .ok (.iconst 0, 1) := by decide +kernel
theorem dCh_planExactly_60 : decode cCh_planExactly 60 = .ok (.iconst 0, 1) := by decide +kernel
theorem dCh_planExactly_61 : decode cCh_planExactly 61 = .ok (.invokevirtual 43, 3) := by decide +kernel
theorem dCh_planExactly_64 : decode cCh_planExactly 64 = .ok (.iconst 0, 1) := by decide +kernel
theorem dCh_planExactly_65 : decode cCh_planExactly 65 = .ok (.istore 6, 2) := by decide +kernel
theorem dCh_planExactly_67 : decode cCh_planExactly 67 = .ok (.iload 6, 2) := by decide +kernel
theorem dCh_planExactly_69 : decode cCh_planExactly 69 = .ok (.iload 4, 2) := by decide +kernel
theorem dCh_planExactly_71 : decode cCh_planExactly 71 = .ok (.if_icmp .ge 57, 3) := by decide +kernel
theorem dCh_planExactly_74 : decode cCh_planExactly 74 = .ok (.aload_n 0, 1) := by decide +kernel
theorem dCh_planExactly_75 : decode cCh_planExactly 75 = .ok (.getfield 24, 3) := by decide +kernel
theorem dCh_planExactly_78 : decode cCh_planExactly 78 = .ok (.iload 6, 2) := by decide +kernel
theorem dCh_planExactly_80 : decode cCh_planExactly 80 = .ok (.iaload, 1) := by decide +kernel
theorem dCh_planExactly_81 : decode cCh_planExactly 81 = .ok (.istore 7, 2) := by decide +kernel
theorem dCh_planExactly_83 : decode cCh_planExactly 83 = .ok (.aload_n 3, 1) := by decide +kernel
theorem dCh_planExactly_84 : decode cCh_planExactly 84 = .ok (.iload 6, 2) := by decide +kernel
theorem dCh_planExactly_86 : decode cCh_planExactly 86 = .ok (.aaload, 1) := by decide +kernel
theorem dCh_planExactly_87 : decode cCh_planExactly 87 = .ok (.iload 7, 2) := by decide +kernel
theorem dCh_planExactly_89 : decode cCh_planExactly 89 = .ok (.iload 7, 2) := by decide +kernel
theorem dCh_planExactly_91 : decode cCh_planExactly 91 = .ok (.iconst (-1), 1) := by decide +kernel
theorem dCh_planExactly_92 : decode cCh_planExactly 92 = .ok (.if_icmp .ne 7, 3) := by decide +kernel
theorem dCh_planExactly_95 : decode cCh_planExactly 95 = .ok (.iconst (-1), 1) := by decide +kernel
theorem dCh_planExactly_96 : decode cCh_planExactly 96 = .ok (.goto 23, 3) := by decide +kernel
theorem dCh_planExactly_99 : decode cCh_planExactly 99 = .ok (.aload_n 0, 1) := by decide +kernel
theorem dCh_planExactly_100 : decode cCh_planExactly 100 = .ok (.getfield 11, 3) := by decide +kernel
theorem dCh_planExactly_103 : decode cCh_planExactly 103 = .ok (.iload 7, 2) := by decide +kernel
theorem dCh_planExactly_105 : decode cCh_planExactly 105 = .ok (.aaload, 1) := by decide +kernel
theorem dCh_planExactly_106 : decode cCh_planExactly 106 = .ok (.aload_n 0, 1) := by decide +kernel
theorem dCh_planExactly_107 : decode cCh_planExactly 107 = .ok (.iload 7, 2) := by decide +kernel
theorem dCh_planExactly_109 : decode cCh_planExactly 109 = .ok (.iload 4, 2) := by decide +kernel
theorem dCh_planExactly_111 : decode cCh_planExactly 111 = .ok (.invokevirtual 47, 3) := by decide +kernel
theorem dCh_planExactly_114 : decode cCh_planExactly 114 = .ok (.iload 6, 2) := by decide +kernel
theorem dCh_planExactly_116 : decode cCh_planExactly 116 = .ok (.invokevirtual 51, 3) := by decide +kernel
theorem dCh_planExactly_119 : decode cCh_planExactly 119 = .ok (.invokevirtual 54, 3) := by decide +kernel
theorem dCh_planExactly_122 : decode cCh_planExactly 122 = .ok (.iinc 6 1, 3) := by decide +kernel
theorem dCh_planExactly_125 : decode cCh_planExactly 125 = .ok (.goto (-58), 3) := by decide +kernel
theorem dCh_planExactly_128 : decode cCh_planExactly 128 = .ok (.return_, 1) := by decide +kernel
abbrev cCh_bestSetAt : ByteArray := prog_3_method_3_code
abbrev mCh_bestSetAt : MD := (⟨"DockBook$DoorChoice", "bestSetAt", "(II)I"⟩, cCh_bestSetAt, 5, some (.int), [])
theorem dCh_bestSetAt_0 : decode cCh_bestSetAt 0 = .ok (.iconst 0, 1) := by decide +kernel
theorem dCh_bestSetAt_1 : decode cCh_bestSetAt 1 = .ok (.istore_n 3, 1) := by decide +kernel
theorem dCh_bestSetAt_2 : decode cCh_bestSetAt 2 = .ok (.iconst 0, 1) := by decide +kernel
theorem dCh_bestSetAt_3 : decode cCh_bestSetAt 3 = .ok (.istore 4, 2) := by decide +kernel
theorem dCh_bestSetAt_5 : decode cCh_bestSetAt 5 = .ok (.iload 4, 2) := by decide +kernel
theorem dCh_bestSetAt_7 : decode cCh_bestSetAt 7 = .ok (.iload_n 2, 1) := by decide +kernel
theorem dCh_bestSetAt_8 : decode cCh_bestSetAt 8 = .ok (.if_icmp .ge 31, 3) := by decide +kernel
theorem dCh_bestSetAt_11 : decode cCh_bestSetAt 11 = .ok (.iload_n 3, 1) := by decide +kernel
theorem dCh_bestSetAt_12 : decode cCh_bestSetAt 12 = .ok (.aload_n 0, 1) := by decide +kernel
theorem dCh_bestSetAt_13 : decode cCh_bestSetAt 13 = .ok (.getfield 24, 3) := by decide +kernel
theorem dCh_bestSetAt_16 : decode cCh_bestSetAt 16 = .ok (.iload 4, 2) := by decide +kernel
theorem dCh_bestSetAt_18 : decode cCh_bestSetAt 18 = .ok (.iaload, 1) := by decide +kernel
theorem dCh_bestSetAt_19 : decode cCh_bestSetAt 19 = .ok (.iload_n 1, 1) := by decide +kernel
theorem dCh_bestSetAt_20 : decode cCh_bestSetAt 20 = .ok (.if_icmp .ne 10, 3) := by decide +kernel
theorem dCh_bestSetAt_23 : decode cCh_bestSetAt 23 = .ok (.iconst 1, 1) := by decide +kernel
theorem dCh_bestSetAt_24 : decode cCh_bestSetAt 24 = .ok (.iload 4, 2) := by decide +kernel
theorem dCh_bestSetAt_26 : decode cCh_bestSetAt 26 = .ok (.ishl, 1) := by decide +kernel
theorem dCh_bestSetAt_27 : decode cCh_bestSetAt 27 = .ok (.goto 4, 3) := by decide +kernel
theorem dCh_bestSetAt_30 : decode cCh_bestSetAt 30 = .ok (.iconst 0, 1) := by decide +kernel
theorem dCh_bestSetAt_31 : decode cCh_bestSetAt 31 = .ok (.ior, 1) := by decide +kernel
theorem dCh_bestSetAt_32 : decode cCh_bestSetAt 32 = .ok (.istore_n 3, 1) := by decide +kernel
theorem dCh_bestSetAt_33 : decode cCh_bestSetAt 33 = .ok (.iinc 4 1, 3) := by decide +kernel
theorem dCh_bestSetAt_36 : decode cCh_bestSetAt 36 = .ok (.goto (-31), 3) := by decide +kernel
theorem dCh_bestSetAt_39 : decode cCh_bestSetAt 39 = .ok (.iload_n 3, 1) := by decide +kernel
theorem dCh_bestSetAt_40 : decode cCh_bestSetAt 40 = .ok (.ireturn, 1) := by decide +kernel
abbrev cCh_choose : ByteArray := prog_3_method_4_code
abbrev mCh_choose : MD := (⟨"DockBook$DoorChoice", "choose", "(IIII)V"⟩, cCh_choose, 6, none, [])
theorem dCh_choose_0 : decode cCh_choose 0 = .ok (.iload 4, 2) := by decide +kernel
theorem dCh_choose_2 : decode cCh_choose 2 = .ok (.aload_n 0, 1) := by decide +kernel
theorem dCh_choose_3 : decode cCh_choose 3 = .ok (.getfield 28, 3) := by decide +kernel
theorem dCh_choose_6 : decode cCh_choose 6 = .ok (.if_icmp .lt 4, 3) := by decide +kernel
theorem dCh_choose_9 : decode cCh_choose 9 = .ok (.return_, 1) := by decide +kernel
theorem dCh_choose_10 : decode cCh_choose 10 = .ok (.iload_n 3, 1) := by decide +kernel
theorem dCh_choose_11 : decode cCh_choose 11 = .ok (.iload_n 2, 1) := by decide +kernel
theorem dCh_choose_12 : decode cCh_choose 12 = .ok (.if_icmp .lt 24, 3) := by decide +kernel
theorem dCh_choose_15 : decode cCh_choose 15 = .ok (.aload_n 0, 1) := by decide +kernel
theorem dCh_choose_16 : decode cCh_choose 16 = .ok (.iload 4, 2) := by decide +kernel
theorem dCh_choose_18 : decode cCh_choose 18 = .ok (.putfield 28, 3) := by decide +kernel
theorem dCh_choose_21 : decode cCh_choose 21 = .ok (.aload_n 0, 1) := by decide +kernel
theorem dCh_choose_22 : decode cCh_choose 22 = .ok (.getfield 21, 3) := by decide +kernel
theorem dCh_choose_25 : decode cCh_choose 25 = .ok (.iconst 0, 1) := by decide +kernel
theorem dCh_choose_26 : decode cCh_choose 26 = .ok (.aload_n 0, 1) := by decide +kernel
theorem dCh_choose_27 : decode cCh_choose 27 = .ok (.getfield 24, 3) := by decide +kernel
theorem dCh_choose_30 : decode cCh_choose 30 = .ok (.iconst 0, 1) := by decide +kernel
theorem dCh_choose_31 : decode cCh_choose 31 = .ok (.iload_n 2, 1) := by decide +kernel
theorem dCh_choose_32 : decode cCh_choose 32 = .ok (.invokestatic 60, 3) := by decide +kernel
theorem dCh_choose_35 : decode cCh_choose 35 = .ok (.return_, 1) := by decide +kernel
theorem dCh_choose_36 : decode cCh_choose 36 = .ok (.iconst 0, 1) := by decide +kernel
theorem dCh_choose_37 : decode cCh_choose 37 = .ok (.istore 5, 2) := by decide +kernel
theorem dCh_choose_39 : decode cCh_choose 39 = .ok (.iload 5, 2) := by decide +kernel
theorem dCh_choose_41 : decode cCh_choose 41 = .ok (.iload_n 1, 1) := by decide +kernel
theorem dCh_choose_42 : decode cCh_choose 42 = .ok (.if_icmp .ge 20, 3) := by decide +kernel
theorem dCh_choose_45 : decode cCh_choose 45 = .ok (.aload_n 0, 1) := by decide +kernel
theorem dCh_choose_46 : decode cCh_choose 46 = .ok (.iload 5, 2) := by decide +kernel
theorem dCh_choose_48 : decode cCh_choose 48 = .ok (.iload_n 1, 1) := by decide +kernel
theorem dCh_choose_49 : decode cCh_choose 49 = .ok (.iload_n 2, 1) := by decide +kernel
theorem dCh_choose_50 : decode cCh_choose 50 = .ok (.iload_n 3, 1) := by decide +kernel
theorem dCh_choose_51 : decode cCh_choose 51 = .ok (.iload 4, 2) := by decide +kernel
theorem dCh_choose_53 : decode cCh_choose 53 = .ok (.invokevirtual 66, 3) := by decide +kernel
theorem dCh_choose_56 : decode cCh_choose 56 = .ok (.iinc 5 1, 3) := by decide +kernel
theorem dCh_choose_59 : decode cCh_choose 59 = .ok (.goto (-20), 3) := by decide +kernel
theorem dCh_choose_62 : decode cCh_choose 62 = .ok (.aload_n 0, 1) := by decide +kernel
theorem dCh_choose_63 : decode cCh_choose 63 = .ok (.iload_n 1, 1) := by decide +kernel
theorem dCh_choose_64 : decode cCh_choose 64 = .ok (.iload_n 2, 1) := by decide +kernel
theorem dCh_choose_65 : decode cCh_choose 65 = .ok (.iload_n 3, 1) := by decide +kernel
theorem dCh_choose_66 : decode cCh_choose 66 = .ok (.iload 4, 2) := by decide +kernel
theorem dCh_choose_68 : decode cCh_choose 68 = .ok (.invokevirtual 70, 3) := by decide +kernel
theorem dCh_choose_71 : decode cCh_choose 71 = .ok (.return_, 1) := by decide +kernel
abbrev cCh_chooseDoor : ByteArray := prog_3_method_5_code
abbrev mCh_chooseDoor : MD := (⟨"DockBook$DoorChoice", "chooseDoor", "(IIIII)V"⟩, cCh_chooseDoor, 9, none, [])
theorem dCh_chooseDoor_0 : decode cCh_chooseDoor 0 = .ok (.aload_n 0, 1) := by decide +kernel
theorem dCh_chooseDoor_1 : decode cCh_chooseDoor 1 = .ok (.getfield 17, 3) := by decide +kernel
theorem dCh_chooseDoor_4 : decode cCh_chooseDoor 4 = .ok (.iload_n 1, 1) := by decide +kernel
theorem dCh_chooseDoor_5 : decode cCh_chooseDoor 5 = .ok (.iaload, 1) := by decide +kernel
theorem dCh_chooseDoor_6 : decode cCh_chooseDoor 6 = .ok (.istore 6, 2) := by decide +kernel
theorem dCh_chooseDoor_8 : decode cCh_chooseDoor 8 = .ok (.iload 6, 2) := by decide +kernel
theorem dCh_chooseDoor_10 : decode cCh_chooseDoor 10 = .ok (.iconst 1, 1) := by decide +kernel
theorem dCh_chooseDoor_11 : decode cCh_chooseDoor 11 = .ok (.iload 4, 2) := by decide +kernel
theorem dCh_chooseDoor_13 : decode cCh_chooseDoor 13 = .ok (.ishl, 1) := by decide +kernel
theorem dCh_chooseDoor_14 : decode cCh_chooseDoor 14 = .ok (.ior, 1) := by decide +kernel
theorem dCh_chooseDoor_15 : decode cCh_chooseDoor 15 = .ok (.istore 7, 2) := by decide +kernel
theorem dCh_chooseDoor_17 : decode cCh_chooseDoor 17 = .ok (.aload_n 0, 1) := by decide +kernel
theorem dCh_chooseDoor_18 : decode cCh_chooseDoor 18 = .ok (.getfield 11, 3) := by decide +kernel
theorem dCh_chooseDoor_21 : decode cCh_chooseDoor 21 = .ok (.iload_n 1, 1) := by decide +kernel
theorem dCh_chooseDoor_22 : decode cCh_chooseDoor 22 = .ok (.aaload, 1) := by decide +kernel
theorem dCh_chooseDoor_23 : decode cCh_chooseDoor 23 = .ok (.getfield 73, 3) := by decide +kernel
theorem dCh_chooseDoor_26 : decode cCh_chooseDoor 26 = .ok (.astore 8, 2) := by decide +kernel
theorem dCh_chooseDoor_28 : decode cCh_chooseDoor 28 = .ok (.aload_n 0, 1) := by decide +kernel
theorem dCh_chooseDoor_29 : decode cCh_chooseDoor 29 = .ok (.getfield 17, 3) := by decide +kernel
theorem dCh_chooseDoor_32 : decode cCh_chooseDoor 32 = .ok (.iload_n 1, 1) := by decide +kernel
theorem dCh_chooseDoor_33 : decode cCh_chooseDoor 33 = .ok (.iload 7, 2) := by decide +kernel
theorem dCh_chooseDoor_35 : decode cCh_chooseDoor 35 = .ok (.iastore, 1) := by decide +kernel
theorem dCh_chooseDoor_36 : decode cCh_chooseDoor 36 = .ok (.aload_n 0, 1) := by decide +kernel
theorem dCh_chooseDoor_37 : decode cCh_chooseDoor 37 = .ok (.getfield 21, 3) := by decide +kernel
theorem dCh_chooseDoor_40 : decode cCh_chooseDoor 40 = .ok (.iload 4, 2) := by decide +kernel
theorem dCh_chooseDoor_42 : decode cCh_chooseDoor 42 = .ok (.iload_n 1, 1) := by decide +kernel
theorem dCh_chooseDoor_43 : decode cCh_chooseDoor 43 = .ok (.iastore, 1) := by decide +kernel
theorem dCh_chooseDoor_44 : decode cCh_chooseDoor 44 = .ok (.aload_n 0, 1) := by decide +kernel
theorem dCh_chooseDoor_45 : decode cCh_chooseDoor 45 = .ok (.iload_n 2, 1) := by decide +kernel
theorem dCh_chooseDoor_46 : decode cCh_chooseDoor 46 = .ok (.iload_n 3, 1) := by decide +kernel
theorem dCh_chooseDoor_47 : decode cCh_chooseDoor 47 = .ok (.iload 4, 2) := by decide +kernel
theorem dCh_chooseDoor_49 : decode cCh_chooseDoor 49 = .ok (.iconst 1, 1) := by decide +kernel
theorem dCh_chooseDoor_50 : decode cCh_chooseDoor 50 = .ok (.iadd, 1) := by decide +kernel
theorem dCh_chooseDoor_51 : decode cCh_chooseDoor 51 = .ok (.iload 5, 2) := by decide +kernel
theorem dCh_chooseDoor_53 : decode cCh_chooseDoor 53 = .ok (.aload 8, 2) := by decide +kernel
theorem dCh_chooseDoor_55 : decode cCh_chooseDoor 55 = .ok (.iload 6, 2) := by decide +kernel
theorem dCh_chooseDoor_57 : decode cCh_chooseDoor 57 = .ok (.iaload, 1) := by decide +kernel
theorem dCh_chooseDoor_58 : decode cCh_chooseDoor 58 = .ok (.isub, 1) := by decide +kernel
theorem dCh_chooseDoor_59 : decode cCh_chooseDoor 59 = .ok (.aload 8, 2) := by decide +kernel
theorem dCh_chooseDoor_61 : decode cCh_chooseDoor 61 = .ok (.iload 7, 2) := by decide +kernel
theorem dCh_chooseDoor_63 : decode cCh_chooseDoor 63 = .ok (.iaload, 1) := by decide +kernel
theorem dCh_chooseDoor_64 : decode cCh_chooseDoor 64 = .ok (.iadd, 1) := by decide +kernel
theorem dCh_chooseDoor_65 : decode cCh_chooseDoor 65 = .ok (.invokevirtual 43, 3) := by decide +kernel
theorem dCh_chooseDoor_68 : decode cCh_chooseDoor 68 = .ok (.aload_n 0, 1) := by decide +kernel
theorem dCh_chooseDoor_69 : decode cCh_chooseDoor 69 = .ok (.getfield 17, 3) := by decide +kernel
theorem dCh_chooseDoor_72 : decode cCh_chooseDoor 72 = .ok (.iload_n 1, 1) := by decide +kernel
theorem dCh_chooseDoor_73 : decode cCh_chooseDoor 73 = .ok (.iload 6, 2) := by decide +kernel
theorem dCh_chooseDoor_75 : decode cCh_chooseDoor 75 = .ok (.iastore, 1) := by decide +kernel
theorem dCh_chooseDoor_76 : decode cCh_chooseDoor 76 = .ok (.return_, 1) := by decide +kernel
abbrev cCh_chooseNothing : ByteArray := prog_3_method_6_code
abbrev mCh_chooseNothing : MD := (⟨"DockBook$DoorChoice", "chooseNothing", "(IIII)V"⟩, cCh_chooseNothing, 5, none, [])
theorem dCh_chooseNothing_0 : decode cCh_chooseNothing 0 = .ok (.aload_n 0, 1) := by decide +kernel
theorem dCh_chooseNothing_1 : decode cCh_chooseNothing 1 = .ok (.getfield 21, 3) := by decide +kernel
theorem dCh_chooseNothing_4 : decode cCh_chooseNothing 4 = .ok (.iload_n 3, 1) := by decide +kernel
theorem dCh_chooseNothing_5 : decode cCh_chooseNothing 5 = .ok (.iconst (-1), 1) := by decide +kernel
theorem dCh_chooseNothing_6 : decode cCh_chooseNothing 6 = .ok (.iastore, 1) := by decide +kernel
theorem dCh_chooseNothing_7 : decode cCh_chooseNothing 7 = .ok (.aload_n 0, 1) := by decide +kernel
theorem dCh_chooseNothing_8 : decode cCh_chooseNothing 8 = .ok (.iload_n 1, 1) := by decide +kernel
theorem dCh_chooseNothing_9 : decode cCh_chooseNothing 9 = .ok (.iload_n 2, 1) := by decide +kernel
theorem dCh_chooseNothing_10 : decode cCh_chooseNothing 10 = .ok (.iload_n 3, 1) := by decide +kernel
theorem dCh_chooseNothing_11 : decode cCh_chooseNothing 11 = .ok (.iconst 1, 1) := by decide +kernel
theorem dCh_chooseNothing_12 : decode cCh_chooseNothing 12 = .ok (.iadd, 1) := by decide +kernel
theorem dCh_chooseNothing_13 : decode cCh_chooseNothing 13 = .ok (.iload 4, 2) := by decide +kernel
theorem dCh_chooseNothing_15 : decode cCh_chooseNothing 15 = .ok (.sipush 5000, 3) := by decide +kernel
theorem dCh_chooseNothing_18 : decode cCh_chooseNothing 18 = .ok (.iadd, 1) := by decide +kernel
theorem dCh_chooseNothing_19 : decode cCh_chooseNothing 19 = .ok (.invokevirtual 43, 3) := by decide +kernel
theorem dCh_chooseNothing_22 : decode cCh_chooseNothing 22 = .ok (.return_, 1) := by decide +kernel
abbrev cOr_init : ByteArray := prog_4_method_1_code
abbrev mOr_init : MD := (⟨"DockBook$DoorOrders", "<init>", "()V"⟩, cOr_init, 1, none, [])
theorem dOr_init_0 : decode cOr_init 0 = .ok (.aload_n 0, 1) := by decide +kernel
theorem dOr_init_1 : decode cOr_init 1 = .ok (.invokespecial 3, 3) := by decide +kernel
theorem dOr_init_4 : decode cOr_init 4 = .ok (.aload_n 0, 1) := by decide +kernel
theorem dOr_init_5 : decode cOr_init 5 = .ok (.bipush 32, 2) := by decide +kernel
theorem dOr_init_7 : decode cOr_init 7 = .ok (.newarray .int, 2) := by decide +kernel
theorem dOr_init_9 : decode cOr_init 9 = .ok (.putfield 9, 3) := by decide +kernel
theorem dOr_init_12 : decode cOr_init 12 = .ok (.aload_n 0, 1) := by decide +kernel
theorem dOr_init_13 : decode cOr_init 13 = .ok (.sipush 160, 3) := by decide +kernel
theorem dOr_init_16 : decode cOr_init 16 = .ok (.newarray .int, 2) := by decide +kernel
theorem dOr_init_18 : decode cOr_init 18 = .ok (.putfield 15, 3) := by decide +kernel
theorem dOr_init_21 : decode cOr_init 21 = .ok (.aload_n 0, 1) := by decide +kernel
theorem dOr_init_22 : decode cOr_init 22 = .ok (.iconst 5, 1) := by decide +kernel
theorem dOr_init_23 : decode cOr_init 23 = .ok (.newarray .int, 2) := by decide +kernel
theorem dOr_init_25 : decode cOr_init 25 = .ok (.putfield 18, 3) := by decide +kernel
theorem dOr_init_28 : decode cOr_init 28 = .ok (.return_, 1) := by decide +kernel
abbrev cOr_findAll : ByteArray := prog_4_method_2_code
abbrev mOr_findAll : MD := (⟨"DockBook$DoorOrders", "findAll", "(LDockBook$Door;[LDockBook$Truck;II)V"⟩, cOr_findAll, 5, none, [])
theorem dOr_findAll_0 : decode cOr_findAll 0 = .ok (.aload_n 0, 1) := by decide +kernel
theorem dOr_findAll_1 : decode cOr_findAll 1 = .ok (.getfield 9, 3) := by decide +kernel
theorem dOr_findAll_4 : decode cOr_findAll 4 = .ok (.ldc 21, 2) := by decide +kernel
theorem dOr_findAll_6 : decode cOr_findAll 6 = .ok (.invokestatic 22, 3) := by decide +kernel
theorem dOr_findAll_9 : decode cOr_findAll 9 = .ok (.aload_n 0, 1) := by decide +kernel
theorem dOr_findAll_10 : decode cOr_findAll 10 = .ok (.aload_n 1, 1) := by decide +kernel
theorem dOr_findAll_11 : decode cOr_findAll 11 = .ok (.aload_n 2, 1) := by decide +kernel
theorem dOr_findAll_12 : decode cOr_findAll 12 = .ok (.iload_n 3, 1) := by decide +kernel
theorem dOr_findAll_13 : decode cOr_findAll 13 = .ok (.iconst 0, 1) := by decide +kernel
theorem dOr_findAll_14 : decode cOr_findAll 14 = .ok (.iload 4, 2) := by decide +kernel
theorem dOr_findAll_16 : decode cOr_findAll 16 = .ok (.iconst 0, 1) := by decide +kernel
theorem dOr_findAll_17 : decode cOr_findAll 17 = .ok (.invokevirtual 28, 3) := by decide +kernel
theorem dOr_findAll_20 : decode cOr_findAll 20 = .ok (.return_, 1) := by decide +kernel
abbrev cOr_startIn : ByteArray := prog_4_method_3_code
abbrev mOr_startIn : MD := (⟨"DockBook$DoorOrders", "startIn", "(II)I"⟩, cOr_startIn, 3, some (.int), [])
theorem dOr_startIn_0 : decode cOr_startIn 0 = .ok (.aload_n 0, 1) := by decide +kernel
theorem dOr_startIn_1 : decode cOr_startIn 1 = .ok (.getfield 15, 3) := by decide +kernel
theorem dOr_startIn_4 : decode cOr_startIn 4 = .ok (.iload_n 1, 1) := by decide +kernel
theorem dOr_startIn_5 : decode cOr_startIn 5 = .ok (.iconst 5, 1) := by decide +kernel
theorem dOr_startIn_6 : decode cOr_startIn 6 = .ok (.imul, 1) := by decide +kernel
theorem dOr_startIn_7 : decode cOr_startIn 7 = .ok (.iload_n 2, 1) := by decide +kernel
theorem dOr_startIn_8 : decode cOr_startIn 8 = .ok (.iadd, 1) := by decide +kernel
theorem dOr_startIn_9 : decode cOr_startIn 9 = .ok (.iaload, 1) := by decide +kernel
theorem dOr_startIn_10 : decode cOr_startIn 10 = .ok (.ireturn, 1) := by decide +kernel
abbrev cOr_extend : ByteArray := prog_4_method_4_code
abbrev mOr_extend : MD := (⟨"DockBook$DoorOrders", "extend", "(LDockBook$Door;[LDockBook$Truck;IIII)V"⟩, cOr_extend, 8, none, [])
theorem dOr_extend_0 : decode cOr_extend 0 = .ok (.aload_n 0, 1) := by decide +kernel
theorem dOr_extend_1 : decode cOr_extend 1 = .ok (.iload 4, 2) := by decide +kernel
theorem dOr_extend_3 : decode cOr_extend 3 = .ok (.iload_n 3, 1) := by decide +kernel
theorem dOr_extend_4 : decode cOr_extend 4 = .ok (.iload 6, 2) := by decide +kernel
theorem dOr_extend_6 : decode cOr_extend 6 = .ok (.invokevirtual 32, 3) := by decide +kernel
theorem dOr_extend_9 : decode cOr_extend 9 = .ok (.iconst 0, 1) := by decide +kernel
theorem dOr_extend_10 : decode cOr_extend 10 = .ok (.istore 7, 2) := by decide +kernel
theorem dOr_extend_12 : decode cOr_extend 12 = .ok (.iload 7, 2) := by decide +kernel
theorem dOr_extend_14 : decode cOr_extend 14 = .ok (.iload_n 3, 1) := by decide +kernel
theorem dOr_extend_15 : decode cOr_extend 15 = .ok (.if_icmp .ge 34, 3) := by decide +kernel
theorem dOr_extend_18 : decode cOr_extend 18 = .ok (.iload 4, 2) := by decide +kernel
theorem dOr_extend_20 : decode cOr_extend 20 = .ok (.iconst 1, 1) := by decide +kernel
theorem dOr_extend_21 : decode cOr_extend 21 = .ok (.iload 7, 2) := by decide +kernel
theorem dOr_extend_23 : decode cOr_extend 23 = .ok (.ishl, 1) := by decide +kernel
theorem dOr_extend_24 : decode cOr_extend 24 = .ok (.iand, 1) := by decide +kernel
theorem dOr_extend_25 : decode cOr_extend 25 = .ok (.ifCond .ne 18, 3) := by decide +kernel
theorem dOr_extend_28 : decode cOr_extend 28 = .ok (.aload_n 0, 1) := by decide +kernel
theorem dOr_extend_29 : decode cOr_extend 29 = .ok (.aload_n 1, 1) := by decide +kernel
theorem dOr_extend_30 : decode cOr_extend 30 = .ok (.aload_n 2, 1) := by decide +kernel
theorem dOr_extend_31 : decode cOr_extend 31 = .ok (.iload_n 3, 1) := by decide +kernel
theorem dOr_extend_32 : decode cOr_extend 32 = .ok (.iload 4, 2) := by decide +kernel
theorem dOr_extend_34 : decode cOr_extend 34 = .ok (.iload 7, 2) := by decide +kernel
theorem dOr_extend_36 : decode cOr_extend 36 = .ok (.iload 5, 2) := by decide +kernel
theorem dOr_extend_38 : decode cOr_extend 38 = .ok (.iload 6, 2) := by decide +kernel
theorem dOr_extend_40 : decode cOr_extend 40 = .ok (.invokevirtual 36, 3) := by decide +kernel
theorem dOr_extend_43 : decode cOr_extend 43 = .ok (.iinc 7 1, 3) := by decide +kernel
theorem dOr_extend_46 : decode cOr_extend 46 = .ok (.goto (-34), 3) := by decide +kernel
theorem dOr_extend_49 : decode cOr_extend 49 = .ok (.return_, 1) := by decide +kernel
abbrev cOr_add : ByteArray := prog_4_method_5_code
abbrev mOr_add : MD := (⟨"DockBook$DoorOrders", "add", "(LDockBook$Door;[LDockBook$Truck;IIIII)V"⟩, cOr_add, 10, none, [])
theorem dOr_add_0 : decode cOr_add 0 = .ok (.aload_n 2, 1) := by decide +kernel
theorem dOr_add_1 : decode cOr_add 1 = .ok (.iload 5, 2) := by decide +kernel
theorem dOr_add_3 : decode cOr_add 3 = .ok (.aaload, 1) := by decide +kernel
theorem dOr_add_4 : decode cOr_add 4 = .ok (.astore 8, 2) := by decide +kernel
theorem dOr_add_6 : decode cOr_add 6 = .ok (.aload_n 1, 1) := by decide +kernel
theorem dOr_add_7 : decode cOr_add 7 = .ok (.aload 8, 2) := by decide +kernel
theorem dOr_add_9 : decode cOr_add 9 = .ok (.iload 6, 2) := by decide +kernel
theorem dOr_add_11 : decode cOr_add 11 = .ok (.invokevirtual 40, 3) := by decide +kernel
theorem dOr_add_14 : decode cOr_add 14 = .ok (.istore 9, 2) := by decide +kernel
theorem dOr_add_16 : decode cOr_add 16 = .ok (.iload 9, 2) := by decide +kernel
theorem dOr_add_18 : decode cOr_add 18 = .ok (.iconst (-1), 1) := by decide +kernel
theorem dOr_add_19 : decode cOr_add 19 = .ok (.if_icmp .ne 4, 3) := by decide +kernel
theorem dOr_add_22 : decode cOr_add 22 = .ok (.return_, 1) := by decide +kernel
theorem dOr_add_23 : decode cOr_add 23 = .ok (.aload_n 0, 1) := by decide +kernel
theorem dOr_add_24 : decode cOr_add 24 = .ok (.getfield 18, 3) := by decide +kernel
theorem dOr_add_27 : decode cOr_add 27 = .ok (.iload 5, 2) := by decide +kernel
theorem dOr_add_29 : decode cOr_add 29 = .ok (.iload 9, 2) := by decide +kernel
theorem dOr_add_31 : decode cOr_add 31 = .ok (.iastore, 1) := by decide +kernel
theorem dOr_add_32 : decode cOr_add 32 = .ok (.aload_n 0, 1) := by decide +kernel
theorem dOr_add_33 : decode cOr_add 33 = .ok (.aload_n 1, 1) := by decide +kernel
theorem dOr_add_34 : decode cOr_add 34 = .ok (.aload_n 2, 1) := by decide +kernel
theorem dOr_add_35 : decode cOr_add 35 = .ok (.iload_n 3, 1) := by decide +kernel
theorem dOr_add_36 : decode cOr_add 36 = .ok (.iload 4, 2) := by decide +kernel
theorem dOr_add_38 : decode cOr_add 38 = .ok (.iconst 1, 1) := by decide +kernel
theorem dOr_add_39 : decode cOr_add 39 = .ok (.iload 5, 2) := by decide +kernel
theorem dOr_add_41 : decode cOr_add 41 = .ok (.ishl, 1) := by decide +kernel
theorem dOr_add_42 : decode cOr_add 42 = .ok (.ior, 1) := by decide +kernel
theorem dOr_add_43 : decode cOr_add 43 = .ok (.iload 9, 2) := by decide +kernel
theorem dOr_add_45 : decode cOr_add 45 = .ok (.aload 8, 2) := by decide +kernel
theorem dOr_add_47 : decode cOr_add 47 = .ok (.getfield 46, 3) := by decide +kernel
theorem dOr_add_50 : decode cOr_add 50 = .ok (.iadd, 1) := by decide +kernel
theorem dOr_add_51 : decode cOr_add 51 = .ok (.iload 7, 2) := by decide +kernel
theorem dOr_add_53 : decode cOr_add 53 = .ok (.aload 8, 2) := by decide +kernel
theorem dOr_add_55 : decode cOr_add 55 = .ok (.iload 9, 2) := by decide +kernel
theorem dOr_add_57 : decode cOr_add 57 = .ok (.invokevirtual 52, 3) := by decide +kernel
theorem dOr_add_60 : decode cOr_add 60 = .ok (.iadd, 1) := by decide +kernel
theorem dOr_add_61 : decode cOr_add 61 = .ok (.invokevirtual 28, 3) := by decide +kernel
theorem dOr_add_64 : decode cOr_add 64 = .ok (.return_, 1) := by decide +kernel
abbrev cOr_keepIfBetter : ByteArray := prog_4_method_6_code
abbrev mOr_keepIfBetter : MD := (⟨"DockBook$DoorOrders", "keepIfBetter", "(III)V"⟩, cOr_keepIfBetter, 5, none, [])
theorem dOr_keepIfBetter_0 : decode cOr_keepIfBetter 0 = .ok (.iload_n 3, 1) := by decide +kernel
theorem dOr_keepIfBetter_1 : decode cOr_keepIfBetter 1 = .ok (.aload_n 0, 1) := by decide +kernel
theorem dOr_keepIfBetter_2 : decode cOr_keepIfBetter 2 = .ok (.getfield 9, 3) := by decide +kernel
theorem dOr_keepIfBetter_5 : decode cOr_keepIfBetter 5 = .ok (.iload_n 1, 1) := by decide +kernel
theorem dOr_keepIfBetter_6 : decode cOr_keepIfBetter 6 = .ok (.iaload, 1) := by decide +kernel
theorem dOr_keepIfBetter_7 : decode cOr_keepIfBetter 7 = .ok (.if_icmp .gt 22, 3) := by decide +kernel
theorem dOr_keepIfBetter_10 : decode cOr_keepIfBetter 10 = .ok (.iload_n 3, 1) := by decide +kernel
theorem dOr_keepIfBetter_11 : decode cOr_keepIfBetter 11 = .ok (.aload_n 0, 1) := by decide +kernel
theorem dOr_keepIfBetter_12 : decode cOr_keepIfBetter 12 = .ok (.getfield 9, 3) := by decide +kernel
theorem dOr_keepIfBetter_15 : decode cOr_keepIfBetter 15 = .ok (.iload_n 1, 1) := by decide +kernel
theorem dOr_keepIfBetter_16 : decode cOr_keepIfBetter 16 = .ok (.iaload, 1) := by decide +kernel
theorem dOr_keepIfBetter_17 : decode cOr_keepIfBetter 17 = .ok (.if_icmp .ne 13, 3) := by decide +kernel
theorem dOr_keepIfBetter_20 : decode cOr_keepIfBetter 20 = .ok (.aload_n 0, 1) := by decide +kernel
theorem dOr_keepIfBetter_21 : decode cOr_keepIfBetter 21 = .ok (.iload_n 1, 1) := by decide +kernel
theorem dOr_keepIfBetter_22 : decode cOr_keepIfBetter 22 = .ok (.iload_n 2, 1) := by decide +kernel
theorem dOr_keepIfBetter_23 : decode cOr_keepIfBetter 23 = .ok (.invokevirtual 56, 3) := by decide +kernel
theorem dOr_keepIfBetter_26 : decode cOr_keepIfBetter 26 = .ok (.ifCond .ne 4, 3) := by decide +kernel
theorem dOr_keepIfBetter_29 : decode cOr_keepIfBetter 29 = .ok (.return_, 1) := by decide +kernel
theorem dOr_keepIfBetter_30 : decode cOr_keepIfBetter 30 = .ok (.aload_n 0, 1) := by decide +kernel
theorem dOr_keepIfBetter_31 : decode cOr_keepIfBetter 31 = .ok (.getfield 9, 3) := by decide +kernel
theorem dOr_keepIfBetter_34 : decode cOr_keepIfBetter 34 = .ok (.iload_n 1, 1) := by decide +kernel
theorem dOr_keepIfBetter_35 : decode cOr_keepIfBetter 35 = .ok (.iload_n 3, 1) := by decide +kernel
theorem dOr_keepIfBetter_36 : decode cOr_keepIfBetter 36 = .ok (.iastore, 1) := by decide +kernel
theorem dOr_keepIfBetter_37 : decode cOr_keepIfBetter 37 = .ok (.iconst 0, 1) := by decide +kernel
theorem dOr_keepIfBetter_38 : decode cOr_keepIfBetter 38 = .ok (.istore 4, 2) := by decide +kernel
theorem dOr_keepIfBetter_40 : decode cOr_keepIfBetter 40 = .ok (.iload 4, 2) := by decide +kernel
theorem dOr_keepIfBetter_42 : decode cOr_keepIfBetter 42 = .ok (.iload_n 2, 1) := by decide +kernel
theorem dOr_keepIfBetter_43 : decode cOr_keepIfBetter 43 = .ok (.if_icmp .ge 27, 3) := by decide +kernel
theorem dOr_keepIfBetter_46 : decode cOr_keepIfBetter 46 = .ok (.aload_n 0, 1) := by decide +kernel
theorem dOr_keepIfBetter_47 : decode cOr_keepIfBetter 47 = .ok (.getfield 15, 3) := by decide +kernel
theorem dOr_keepIfBetter_50 : decode cOr_keepIfBetter 50 = .ok (.iload_n 1, 1) := by decide +kernel
theorem dOr_keepIfBetter_51 : decode cOr_keepIfBetter 51 = .ok (.iconst 5, 1) := by decide +kernel
theorem dOr_keepIfBetter_52 : decode cOr_keepIfBetter 52 = .ok (.imul, 1) := by decide +kernel
theorem dOr_keepIfBetter_53 : decode cOr_keepIfBetter 53 = .ok (.iload 4, 2) := by decide +kernel
theorem dOr_keepIfBetter_55 : decode cOr_keepIfBetter 55 = .ok (.iadd, 1) := by decide +kernel
theorem dOr_keepIfBetter_56 : decode cOr_keepIfBetter 56 = .ok (.aload_n 0, 1) := by decide +kernel
theorem dOr_keepIfBetter_57 : decode cOr_keepIfBetter 57 = .ok (.getfield 18, 3) := by decide +kernel
theorem dOr_keepIfBetter_60 : decode cOr_keepIfBetter 60 = .ok (.iload 4, 2) := by decide +kernel
theorem dOr_keepIfBetter_62 : decode cOr_keepIfBetter 62 = .ok (.iaload, 1) := by decide +kernel
theorem dOr_keepIfBetter_63 : decode cOr_keepIfBetter 63 = .ok (.iastore, 1) := by decide +kernel
theorem dOr_keepIfBetter_64 : decode cOr_keepIfBetter 64 = .ok (.iinc 4 1, 3) := by decide +kernel
theorem dOr_keepIfBetter_67 : decode cOr_keepIfBetter 67 = .ok (.goto (-27), 3) := by decide +kernel
theorem dOr_keepIfBetter_70 : decode cOr_keepIfBetter 70 = .ok (.return_, 1) := by decide +kernel
abbrev cOr_startsComeFirst : ByteArray := prog_4_method_7_code
abbrev mOr_startsComeFirst : MD := (⟨"DockBook$DoorOrders", "startsComeFirst", "(II)Z"⟩, cOr_startsComeFirst, 5, some (.boolean), [])
theorem dOr_startsComeFirst_0 : decode cOr_startsComeFirst 0 = .ok (.iconst 0, 1) := by decide +kernel
theorem dOr_startsComeFirst_1 : decode cOr_startsComeFirst 1 = .ok (.istore_n 3, 1) := by decide +kernel
theorem dOr_startsComeFirst_2 : decode cOr_startsComeFirst 2 = .ok (.iload_n 3, 1) := by decide +kernel
theorem dOr_startsComeFirst_3 : decode cOr_startsComeFirst 3 = .ok (.iload_n 2, 1) := by decide +kernel
theorem dOr_startsComeFirst_4 : decode cOr_startsComeFirst 4 = .ok (.if_icmp .ge 57, 3) := by decide +kernel
theorem dOr_startsComeFirst_7 : decode cOr_startsComeFirst 7 = .ok (.aload_n 0, 1) := by decide +kernel
theorem dOr_startsComeFirst_8 : decode cOr_startsComeFirst 8 = .ok (.getfield 15, 3) := by decide +kernel
theorem dOr_startsComeFirst_11 : decode cOr_startsComeFirst 11 = .ok (.iload_n 1, 1) := by decide +kernel
theorem dOr_startsComeFirst_12 : decode cOr_startsComeFirst 12 = .ok (.iconst 5, 1) := by decide +kernel
theorem dOr_startsComeFirst_13 : decode cOr_startsComeFirst 13 = .ok (.imul, 1) := by decide +kernel
theorem dOr_startsComeFirst_14 : decode cOr_startsComeFirst 14 = .ok (.iload_n 3, 1) := by decide +kernel
theorem dOr_startsComeFirst_15 : decode cOr_startsComeFirst 15 = .ok (.iadd, 1) := by decide +kernel
theorem dOr_startsComeFirst_16 : decode cOr_startsComeFirst 16 = .ok (.iaload, 1) := by decide +kernel
theorem dOr_startsComeFirst_17 : decode cOr_startsComeFirst 17 = .ok (.istore 4, 2) := by decide +kernel
theorem dOr_startsComeFirst_19 : decode cOr_startsComeFirst 19 = .ok (.iload_n 1, 1) := by decide +kernel
theorem dOr_startsComeFirst_20 : decode cOr_startsComeFirst 20 = .ok (.iconst 1, 1) := by decide +kernel
theorem dOr_startsComeFirst_21 : decode cOr_startsComeFirst 21 = .ok (.iload_n 3, 1) := by decide +kernel
theorem dOr_startsComeFirst_22 : decode cOr_startsComeFirst 22 = .ok (.ishl, 1) := by decide +kernel
theorem dOr_startsComeFirst_23 : decode cOr_startsComeFirst 23 = .ok (.iand, 1) := by decide +kernel
theorem dOr_startsComeFirst_24 : decode cOr_startsComeFirst 24 = .ok (.ifCond .eq 31, 3) := by decide +kernel
theorem dOr_startsComeFirst_27 : decode cOr_startsComeFirst 27 = .ok (.aload_n 0, 1) := by decide +kernel
theorem dOr_startsComeFirst_28 : decode cOr_startsComeFirst 28 = .ok (.getfield 18, 3) := by decide +kernel
theorem dOr_startsComeFirst_31 : decode cOr_startsComeFirst 31 = .ok (.iload_n 3, 1) := by decide +kernel
theorem dOr_startsComeFirst_32 : decode cOr_startsComeFirst 32 = .ok (.iaload, 1) := by decide +kernel
theorem dOr_startsComeFirst_33 : decode cOr_startsComeFirst 33 = .ok (.iload 4, 2) := by decide +kernel
theorem dOr_startsComeFirst_35 : decode cOr_startsComeFirst 35 = .ok (.if_icmp .eq 20, 3) := by decide +kernel
theorem dOr_startsComeFirst_38 : decode cOr_startsComeFirst 38 = .ok (.aload_n 0, 1) := by decide +kernel
theorem dOr_startsComeFirst_39 : decode cOr_startsComeFirst 39 = .ok (.getfield 18, 3) := by decide +kernel
theorem dOr_startsComeFirst_42 : decode cOr_startsComeFirst 42 = .ok (.iload_n 3, 1) := by decide +kernel
theorem dOr_startsComeFirst_43 : decode cOr_startsComeFirst 43 = .ok (.iaload, 1) := by decide +kernel
theorem dOr_startsComeFirst_44 : decode cOr_startsComeFirst 44 = .ok (.iload 4, 2) := by decide +kernel
theorem dOr_startsComeFirst_46 : decode cOr_startsComeFirst 46 = .ok (.if_icmp .ge 7, 3) := by decide +kernel
theorem dOr_startsComeFirst_49 : decode cOr_startsComeFirst 49 = .ok (.iconst 1, 1) := by decide +kernel
theorem dOr_startsComeFirst_50 : decode cOr_startsComeFirst 50 = .ok (.goto 4, 3) := by decide +kernel
theorem dOr_startsComeFirst_53 : decode cOr_startsComeFirst 53 = .ok (.iconst 0, 1) := by decide +kernel
theorem dOr_startsComeFirst_54 : decode cOr_startsComeFirst 54 = .ok (.ireturn, 1) := by decide +kernel
theorem dOr_startsComeFirst_55 : decode cOr_startsComeFirst 55 = .ok (.iinc 3 1, 3) := by decide +kernel
theorem dOr_startsComeFirst_58 : decode cOr_startsComeFirst 58 = .ok (.goto (-56), 3) := by decide +kernel
theorem dOr_startsComeFirst_61 : decode cOr_startsComeFirst 61 = .ok (.iconst 0, 1) := by decide +kernel
theorem dOr_startsComeFirst_62 : decode cOr_startsComeFirst 62 = .ok (.ireturn, 1) := by decide +kernel
abbrev cTr_init : ByteArray := prog_5_method_1_code
abbrev mTr_init : MD := (⟨"DockBook$Truck", "<init>", "(I)V"⟩, cTr_init, 2, none, [])
theorem dTr_init_0 : decode cTr_init 0 = .ok (.aload_n 0, 1) := by decide +kernel
theorem dTr_init_1 : decode cTr_init 1 = .ok (.invokespecial 3, 3) := by decide +kernel
theorem dTr_init_4 : decode cTr_init 4 = .ok (.aload_n 0, 1) := by decide +kernel
theorem dTr_init_5 : decode cTr_init 5 = .ok (.iconst 0, 1) := by decide +kernel
theorem dTr_init_6 : decode cTr_init 6 = .ok (.putfield 9, 3) := by decide +kernel
theorem dTr_init_9 : decode cTr_init 9 = .ok (.aload_n 0, 1) := by decide +kernel
theorem dTr_init_10 : decode cTr_init 10 = .ok (.iconst 0, 1) := by decide +kernel
theorem dTr_init_11 : decode cTr_init 11 = .ok (.putfield 15, 3) := by decide +kernel
theorem dTr_init_14 : decode cTr_init 14 = .ok (.aload_n 0, 1) := by decide +kernel
theorem dTr_init_15 : decode cTr_init 15 = .ok (.iconst 0, 1) := by decide +kernel
theorem dTr_init_16 : decode cTr_init 16 = .ok (.putfield 18, 3) := by decide +kernel
theorem dTr_init_19 : decode cTr_init 19 = .ok (.aload_n 0, 1) := by decide +kernel
theorem dTr_init_20 : decode cTr_init 20 = .ok (.iconst 0, 1) := by decide +kernel
theorem dTr_init_21 : decode cTr_init 21 = .ok (.putfield 21, 3) := by decide +kernel
theorem dTr_init_24 : decode cTr_init 24 = .ok (.aload_n 0, 1) := by decide +kernel
theorem dTr_init_25 : decode cTr_init 25 = .ok (.iconst 0, 1) := by decide +kernel
theorem dTr_init_26 : decode cTr_init 26 = .ok (.putfield 24, 3) := by decide +kernel
theorem dTr_init_29 : decode cTr_init 29 = .ok (.aload_n 0, 1) := by decide +kernel
theorem dTr_init_30 : decode cTr_init 30 = .ok (.iconst (-1), 1) := by decide +kernel
theorem dTr_init_31 : decode cTr_init 31 = .ok (.putfield 27, 3) := by decide +kernel
theorem dTr_init_34 : decode cTr_init 34 = .ok (.aload_n 0, 1) := by decide +kernel
theorem dTr_init_35 : decode cTr_init 35 = .ok (.iconst (-1), 1) := by decide +kernel
theorem dTr_init_36 : decode cTr_init 36 = .ok (.putfield 30, 3) := by decide +kernel
theorem dTr_init_39 : decode cTr_init 39 = .ok (.aload_n 0, 1) := by decide +kernel
theorem dTr_init_40 : decode cTr_init 40 = .ok (.iconst (-1), 1) := by decide +kernel
theorem dTr_init_41 : decode cTr_init 41 = .ok (.putfield 33, 3) := by decide +kernel
theorem dTr_init_44 : decode cTr_init 44 = .ok (.aload_n 0, 1) := by decide +kernel
theorem dTr_init_45 : decode cTr_init 45 = .ok (.iconst (-1), 1) := by decide +kernel
theorem dTr_init_46 : decode cTr_init 46 = .ok (.putfield 36, 3) := by decide +kernel
theorem dTr_init_49 : decode cTr_init 49 = .ok (.aload_n 0, 1) := by decide +kernel
theorem dTr_init_50 : decode cTr_init 50 = .ok (.iconst (-1), 1) := by decide +kernel
theorem dTr_init_51 : decode cTr_init 51 = .ok (.putfield 39, 3) := by decide +kernel
theorem dTr_init_54 : decode cTr_init 54 = .ok (.aload_n 0, 1) := by decide +kernel
theorem dTr_init_55 : decode cTr_init 55 = .ok (.iconst 0, 1) := by decide +kernel
theorem dTr_init_56 : decode cTr_init 56 = .ok (.putfield 42, 3) := by decide +kernel
theorem dTr_init_59 : decode cTr_init 59 = .ok (.aload_n 0, 1) := by decide +kernel
theorem dTr_init_60 : decode cTr_init 60 = .ok (.iconst 0, 1) := by decide +kernel
theorem dTr_init_61 : decode cTr_init 61 = .ok (.putfield 46, 3) := by decide +kernel
theorem dTr_init_64 : decode cTr_init 64 = .ok (.aload_n 0, 1) := by decide +kernel
theorem dTr_init_65 : decode cTr_init 65 = .ok (.iconst (-1), 1) := by decide +kernel
theorem dTr_init_66 : decode cTr_init 66 = .ok (.putfield 49, 3) := by decide +kernel
theorem dTr_init_69 : decode cTr_init 69 = .ok (.aload_n 0, 1) := by decide +kernel
theorem dTr_init_70 : decode cTr_init 70 = .ok (.iload_n 1, 1) := by decide +kernel
theorem dTr_init_71 : decode cTr_init 71 = .ok (.putfield 52, 3) := by decide +kernel
theorem dTr_init_74 : decode cTr_init 74 = .ok (.return_, 1) := by decide +kernel
abbrev cTr_setPlan : ByteArray := prog_5_method_2_code
abbrev mTr_setPlan : MD := (⟨"DockBook$Truck", "setPlan", "(II)V"⟩, cTr_setPlan, 3, none, [])
theorem dTr_setPlan_0 : decode cTr_setPlan 0 = .ok (.aload_n 0, 1) := by decide +kernel
theorem dTr_setPlan_1 : decode cTr_setPlan 1 = .ok (.iload_n 1, 1) := by decide +kernel
theorem dTr_setPlan_2 : decode cTr_setPlan 2 = .ok (.putfield 27, 3) := by decide +kernel
theorem dTr_setPlan_5 : decode cTr_setPlan 5 = .ok (.aload_n 0, 1) := by decide +kernel
theorem dTr_setPlan_6 : decode cTr_setPlan 6 = .ok (.iload_n 2, 1) := by decide +kernel
theorem dTr_setPlan_7 : decode cTr_setPlan 7 = .ok (.putfield 30, 3) := by decide +kernel
theorem dTr_setPlan_10 : decode cTr_setPlan 10 = .ok (.return_, 1) := by decide +kernel
abbrev cTr_rememberPlan : ByteArray := prog_5_method_3_code
abbrev mTr_rememberPlan : MD := (⟨"DockBook$Truck", "rememberPlan", "()V"⟩, cTr_rememberPlan, 1, none, [])
theorem dTr_rememberPlan_0 : decode cTr_rememberPlan 0 = .ok (.aload_n 0, 1) := by decide +kernel
theorem dTr_rememberPlan_1 : decode cTr_rememberPlan 1 = .ok (.aload_n 0, 1) := by decide +kernel
theorem dTr_rememberPlan_2 : decode cTr_rememberPlan 2 = .ok (.getfield 27, 3) := by decide +kernel
theorem dTr_rememberPlan_5 : decode cTr_rememberPlan 5 = .ok (.putfield 33, 3) := by decide +kernel
theorem dTr_rememberPlan_8 : decode cTr_rememberPlan 8 = .ok (.aload_n 0, 1) := by decide +kernel
theorem dTr_rememberPlan_9 : decode cTr_rememberPlan 9 = .ok (.aload_n 0, 1) := by decide +kernel
theorem dTr_rememberPlan_10 : decode cTr_rememberPlan 10 = .ok (.getfield 30, 3) := by decide +kernel
theorem dTr_rememberPlan_13 : decode cTr_rememberPlan 13 = .ok (.putfield 36, 3) := by decide +kernel
theorem dTr_rememberPlan_16 : decode cTr_rememberPlan 16 = .ok (.return_, 1) := by decide +kernel
abbrev cTr_hasMoved : ByteArray := prog_5_method_4_code
abbrev mTr_hasMoved : MD := (⟨"DockBook$Truck", "hasMoved", "()Z"⟩, cTr_hasMoved, 1, some (.boolean), [])
theorem dTr_hasMoved_0 : decode cTr_hasMoved 0 = .ok (.aload_n 0, 1) := by decide +kernel
theorem dTr_hasMoved_1 : decode cTr_hasMoved 1 = .ok (.getfield 27, 3) := by decide +kernel
theorem dTr_hasMoved_4 : decode cTr_hasMoved 4 = .ok (.aload_n 0, 1) := by decide +kernel
theorem dTr_hasMoved_5 : decode cTr_hasMoved 5 = .ok (.getfield 33, 3) := by decide +kernel
theorem dTr_hasMoved_8 : decode cTr_hasMoved 8 = .ok (.if_icmp .ne 14, 3) := by decide +kernel
theorem dTr_hasMoved_11 : decode cTr_hasMoved 11 = .ok (.aload_n 0, 1) := by decide +kernel
theorem dTr_hasMoved_12 : decode cTr_hasMoved 12 = .ok (.getfield 30, 3) := by decide +kernel
theorem dTr_hasMoved_15 : decode cTr_hasMoved 15 = .ok (.aload_n 0, 1) := by decide +kernel
theorem dTr_hasMoved_16 : decode cTr_hasMoved 16 = .ok (.getfield 36, 3) := by decide +kernel
theorem dTr_hasMoved_19 : decode cTr_hasMoved 19 = .ok (.if_icmp .eq 7, 3) := by decide +kernel
theorem dTr_hasMoved_22 : decode cTr_hasMoved 22 = .ok (.iconst 1, 1) := by decide +kernel
theorem dTr_hasMoved_23 : decode cTr_hasMoved 23 = .ok (.goto 4, 3) := by decide +kernel
theorem dTr_hasMoved_26 : decode cTr_hasMoved 26 = .ok (.iconst 0, 1) := by decide +kernel
theorem dTr_hasMoved_27 : decode cTr_hasMoved 27 = .ok (.ireturn, 1) := by decide +kernel
abbrev cTr_isPlannedFor : ByteArray := prog_5_method_5_code
abbrev mTr_isPlannedFor : MD := (⟨"DockBook$Truck", "isPlannedFor", "(I)Z"⟩, cTr_isPlannedFor, 2, some (.boolean), [])
theorem dTr_isPlannedFor_0 : decode cTr_isPlannedFor 0 = .ok (.aload_n 0, 1) := by decide +kernel
theorem dTr_isPlannedFor_1 : decode cTr_isPlannedFor 1 = .ok (.getfield 24, 3) := by decide +kernel
theorem dTr_isPlannedFor_4 : decode cTr_isPlannedFor 4 = .ok (.ifCond .ne 15, 3) := by decide +kernel
theorem dTr_isPlannedFor_7 : decode cTr_isPlannedFor 7 = .ok (.aload_n 0, 1) := by decide +kernel
theorem dTr_isPlannedFor_8 : decode cTr_isPlannedFor 8 = .ok (.getfield 27, 3) := by decide +kernel
theorem dTr_isPlannedFor_11 : decode cTr_isPlannedFor 11 = .ok (.iload_n 1, 1) := by decide +kernel
theorem dTr_isPlannedFor_12 : decode cTr_isPlannedFor 12 = .ok (.if_icmp .ne 7, 3) := by decide +kernel
theorem dTr_isPlannedFor_15 : decode cTr_isPlannedFor 15 = .ok (.iconst 1, 1) := by decide +kernel
theorem dTr_isPlannedFor_16 : decode cTr_isPlannedFor 16 = .ok (.goto 4, 3) := by decide +kernel
theorem dTr_isPlannedFor_19 : decode cTr_isPlannedFor 19 = .ok (.iconst 0, 1) := by decide +kernel
theorem dTr_isPlannedFor_20 : decode cTr_isPlannedFor 20 = .ok (.ireturn, 1) := by decide +kernel
abbrev cTr_costAt : ByteArray := prog_5_method_6_code
abbrev mTr_costAt : MD := (⟨"DockBook$Truck", "costAt", "(I)I"⟩, cTr_costAt, 2, some (.int), [])
theorem dTr_costAt_0 : decode cTr_costAt 0 = .ok (.iload_n 1, 1) := by decide +kernel
theorem dTr_costAt_1 : decode cTr_costAt 1 = .ok (.iconst (-1), 1) := by decide +kernel
theorem dTr_costAt_2 : decode cTr_costAt 2 = .ok (.if_icmp .ne 9, 3) := by decide +kernel
theorem dTr_costAt_5 : decode cTr_costAt 5 = .ok (.sipush 5000, 3) := by decide +kernel
theorem dTr_costAt_8 : decode cTr_costAt 8 = .ok (.goto 9, 3) := by decide +kernel
theorem dTr_costAt_11 : decode cTr_costAt 11 = .ok (.iload_n 1, 1) := by decide +kernel
theorem dTr_costAt_12 : decode cTr_costAt 12 = .ok (.aload_n 0, 1) := by decide +kernel
theorem dTr_costAt_13 : decode cTr_costAt 13 = .ok (.getfield 15, 3) := by decide +kernel
theorem dTr_costAt_16 : decode cTr_costAt 16 = .ok (.isub, 1) := by decide +kernel
theorem dTr_costAt_17 : decode cTr_costAt 17 = .ok (.ireturn, 1) := by decide +kernel
abbrev cTr_goesBefore : ByteArray := prog_5_method_7_code
abbrev mTr_goesBefore : MD := (⟨"DockBook$Truck", "goesBefore", "(LDockBook$Truck;)Z"⟩, cTr_goesBefore, 2, some (.boolean), [])
theorem dTr_goesBefore_0 : decode cTr_goesBefore 0 = .ok (.aload_n 0, 1) := by decide +kernel
theorem dTr_goesBefore_1 : decode cTr_goesBefore 1 = .ok (.getfield 21, 3) := by decide +kernel
theorem dTr_goesBefore_4 : decode cTr_goesBefore 4 = .ok (.aload_n 1, 1) := by decide +kernel
theorem dTr_goesBefore_5 : decode cTr_goesBefore 5 = .ok (.getfield 21, 3) := by decide +kernel
theorem dTr_goesBefore_8 : decode cTr_goesBefore 8 = .ok (.if_icmp .eq 20, 3) := by decide +kernel
theorem dTr_goesBefore_11 : decode cTr_goesBefore 11 = .ok (.aload_n 0, 1) := by decide +kernel
theorem dTr_goesBefore_12 : decode cTr_goesBefore 12 = .ok (.getfield 21, 3) := by decide +kernel
theorem dTr_goesBefore_15 : decode cTr_goesBefore 15 = .ok (.aload_n 1, 1) := by decide +kernel
theorem dTr_goesBefore_16 : decode cTr_goesBefore 16 = .ok (.getfield 21, 3) := by decide +kernel
theorem dTr_goesBefore_19 : decode cTr_goesBefore 19 = .ok (.if_icmp .ge 7, 3) := by decide +kernel
theorem dTr_goesBefore_22 : decode cTr_goesBefore 22 = .ok (.iconst 1, 1) := by decide +kernel
theorem dTr_goesBefore_23 : decode cTr_goesBefore 23 = .ok (.goto 4, 3) := by decide +kernel
theorem dTr_goesBefore_26 : decode cTr_goesBefore 26 = .ok (.iconst 0, 1) := by decide +kernel
theorem dTr_goesBefore_27 : decode cTr_goesBefore 27 = .ok (.ireturn, 1) := by decide +kernel
theorem dTr_goesBefore_28 : decode cTr_goesBefore 28 = .ok (.aload_n 0, 1) := by decide +kernel
theorem dTr_goesBefore_29 : decode cTr_goesBefore 29 = .ok (.getfield 15, 3) := by decide +kernel
theorem dTr_goesBefore_32 : decode cTr_goesBefore 32 = .ok (.aload_n 1, 1) := by decide +kernel
theorem dTr_goesBefore_33 : decode cTr_goesBefore 33 = .ok (.getfield 15, 3) := by decide +kernel
theorem dTr_goesBefore_36 : decode cTr_goesBefore 36 = .ok (.if_icmp .eq 20, 3) := by decide +kernel
theorem dTr_goesBefore_39 : decode cTr_goesBefore 39 = .ok (.aload_n 0, 1) := by decide +kernel
theorem dTr_goesBefore_40 : decode cTr_goesBefore 40 = .ok (.getfield 15, 3) := by decide +kernel
theorem dTr_goesBefore_43 : decode cTr_goesBefore 43 = .ok (.aload_n 1, 1) := by decide +kernel
theorem dTr_goesBefore_44 : decode cTr_goesBefore 44 = .ok (.getfield 15, 3) := by decide +kernel
theorem dTr_goesBefore_47 : decode cTr_goesBefore 47 = .ok (.if_icmp .ge 7, 3) := by decide +kernel
theorem dTr_goesBefore_50 : decode cTr_goesBefore 50 = .ok (.iconst 1, 1) := by decide +kernel
theorem dTr_goesBefore_51 : decode cTr_goesBefore 51 = .ok (.goto 4, 3) := by decide +kernel
theorem dTr_goesBefore_54 : decode cTr_goesBefore 54 = .ok (.iconst 0, 1) := by decide +kernel
theorem dTr_goesBefore_55 : decode cTr_goesBefore 55 = .ok (.ireturn, 1) := by decide +kernel
theorem dTr_goesBefore_56 : decode cTr_goesBefore 56 = .ok (.aload_n 0, 1) := by decide +kernel
theorem dTr_goesBefore_57 : decode cTr_goesBefore 57 = .ok (.getfield 52, 3) := by decide +kernel
theorem dTr_goesBefore_60 : decode cTr_goesBefore 60 = .ok (.aload_n 1, 1) := by decide +kernel
theorem dTr_goesBefore_61 : decode cTr_goesBefore 61 = .ok (.getfield 52, 3) := by decide +kernel
theorem dTr_goesBefore_64 : decode cTr_goesBefore 64 = .ok (.if_icmp .ge 7, 3) := by decide +kernel
theorem dTr_goesBefore_67 : decode cTr_goesBefore 67 = .ok (.iconst 1, 1) := by decide +kernel
theorem dTr_goesBefore_68 : decode cTr_goesBefore 68 = .ok (.goto 4, 3) := by decide +kernel
theorem dTr_goesBefore_71 : decode cTr_goesBefore 71 = .ok (.iconst 0, 1) := by decide +kernel
theorem dTr_goesBefore_72 : decode cTr_goesBefore 72 = .ok (.ireturn, 1) := by decide +kernel
abbrev cTr_tellSeal : ByteArray := prog_5_method_8_code
abbrev mTr_tellSeal : MD := (⟨"DockBook$Truck", "tellSeal", "(I)I"⟩, cTr_tellSeal, 2, some (.int), [])
theorem dTr_tellSeal_0 : decode cTr_tellSeal 0 = .ok (.aload_n 0, 1) := by decide +kernel
theorem dTr_tellSeal_1 : decode cTr_tellSeal 1 = .ok (.getfield 39, 3) := by decide +kernel
theorem dTr_tellSeal_4 : decode cTr_tellSeal 4 = .ok (.iconst (-1), 1) := by decide +kernel
theorem dTr_tellSeal_5 : decode cTr_tellSeal 5 = .ok (.if_icmp .ne 10, 3) := by decide +kernel
theorem dTr_tellSeal_8 : decode cTr_tellSeal 8 = .ok (.aload_n 0, 1) := by decide +kernel
theorem dTr_tellSeal_9 : decode cTr_tellSeal 9 = .ok (.iload_n 1, 1) := by decide +kernel
theorem dTr_tellSeal_10 : decode cTr_tellSeal 10 = .ok (.putfield 39, 3) := by decide +kernel
theorem dTr_tellSeal_13 : decode cTr_tellSeal 13 = .ok (.iconst 0, 1) := by decide +kernel
theorem dTr_tellSeal_14 : decode cTr_tellSeal 14 = .ok (.ireturn, 1) := by decide +kernel
theorem dTr_tellSeal_15 : decode cTr_tellSeal 15 = .ok (.aload_n 0, 1) := by decide +kernel
theorem dTr_tellSeal_16 : decode cTr_tellSeal 16 = .ok (.aload_n 0, 1) := by decide +kernel
theorem dTr_tellSeal_17 : decode cTr_tellSeal 17 = .ok (.getfield 39, 3) := by decide +kernel
theorem dTr_tellSeal_20 : decode cTr_tellSeal 20 = .ok (.iload_n 1, 1) := by decide +kernel
theorem dTr_tellSeal_21 : decode cTr_tellSeal 21 = .ok (.if_icmp .ne 7, 3) := by decide +kernel
theorem dTr_tellSeal_24 : decode cTr_tellSeal 24 = .ok (.iconst 1, 1) := by decide +kernel
theorem dTr_tellSeal_25 : decode cTr_tellSeal 25 = .ok (.goto 4, 3) := by decide +kernel
theorem dTr_tellSeal_28 : decode cTr_tellSeal 28 = .ok (.iconst 0, 1) := by decide +kernel
theorem dTr_tellSeal_29 : decode cTr_tellSeal 29 = .ok (.putfield 42, 3) := by decide +kernel
theorem dTr_tellSeal_32 : decode cTr_tellSeal 32 = .ok (.aload_n 0, 1) := by decide +kernel
theorem dTr_tellSeal_33 : decode cTr_tellSeal 33 = .ok (.getfield 42, 3) := by decide +kernel
theorem dTr_tellSeal_36 : decode cTr_tellSeal 36 = .ok (.ifCond .eq 5, 3) := by decide +kernel
theorem dTr_tellSeal_39 : decode cTr_tellSeal 39 = .ok (.iconst 1, 1) := by decide +kernel
theorem dTr_tellSeal_40 : decode cTr_tellSeal 40 = .ok (.ireturn, 1) := by decide +kernel
theorem dTr_tellSeal_41 : decode cTr_tellSeal 41 = .ok (.aload_n 0, 1) := by decide +kernel
theorem dTr_tellSeal_42 : decode cTr_tellSeal 42 = .ok (.iconst (-1), 1) := by decide +kernel
theorem dTr_tellSeal_43 : decode cTr_tellSeal 43 = .ok (.putfield 39, 3) := by decide +kernel
theorem dTr_tellSeal_46 : decode cTr_tellSeal 46 = .ok (.iconst 2, 1) := by decide +kernel
theorem dTr_tellSeal_47 : decode cTr_tellSeal 47 = .ok (.ireturn, 1) := by decide +kernel
end
section
theorem obBk_3 : Cond.methodLink "DockBook" 3 objectInit ∈ maT ∧ Cond.instanceMethod objectInit ∈ maT ∧ Cond.code objectInit ⟨#[0xb1]⟩ 1 none ∈ maT := ⟨ma_in (by decide +kernel) rfl, ma_in (by decide +kernel) rfl, ma_in (by decide +kernel) rfl⟩
theorem fwBk_init_11 : ma_FW mBk_init 4 0 11 := ⟨RBk, TBk, rfl, by decide, iTBk, ma_in (by decide +kernel) rfl, ftBk, nmBk, Or.inr ⟨rfl, rfl, rfl⟩⟩ -- DockBook.doors
theorem fwBk_init_17 : ma_FW mBk_init 4 1 17 := ⟨RBk, TBk, rfl, by decide, iTBk, ma_in (by decide +kernel) rfl, ftBk, nmBk, Or.inr ⟨rfl, rfl, rfl⟩⟩ -- DockBook.trucks
theorem fwBk_init_21 : ma_FW mBk_init 4 2 21 := ⟨RBk, TBk, rfl, by decide, iTBk, ma_in (by decide +kernel) rfl, ftBk, nmBk, Or.inr ⟨rfl, rfl, rfl⟩⟩ -- DockBook.waiting
theorem nwBk_24 : ma_NW "DockBook" 1 24 := ⟨RCh, TCh, rfl, iTCh, ma_in (by decide +kernel) rfl, ma_in (by decide +kernel) rfl, ma_in (by decide +kernel) rfl, ftCh, dfCh⟩
theorem cwmCh_init : ma_CW mCh_init := Or.inl ⟨rfl, ma_in (by decide +kernel) rfl⟩
theorem vwBk_26 : ma_IW "DockBook" 26 mCh_init 0 := ⟨ma_in (by decide +kernel) rfl, ma_in (by decide +kernel) rfl, rfl, ⟨by decide +kernel, by decide +kernel⟩, by decide +kernel, ma_in (by decide +kernel) rfl, cwmCh_init, by decide +kernel, by decide⟩
theorem fwBk_init_27 : ma_FW mBk_init 4 3 27 := ⟨RBk, TBk, rfl, by decide, iTBk, ma_in (by decide +kernel) rfl, ftBk, nmBk, Or.inr ⟨rfl, rfl, rfl⟩⟩ -- DockBook.doorChoice
theorem fwBk_init_31 : ma_FW mBk_init 4 4 31 := ⟨RBk, TBk, rfl, by decide, iTBk, ma_in (by decide +kernel) rfl, ftBk, nmBk, Or.inl rfl⟩ -- DockBook.doorCount
theorem fwBk_init_35 : ma_FW mBk_init 4 5 35 := ⟨RBk, TBk, rfl, by decide, iTBk, ma_in (by decide +kernel) rfl, ftBk, nmBk, Or.inl rfl⟩ -- DockBook.truckCount
theorem fwBk_init_38 : ma_FW mBk_init 4 6 38 := ⟨RBk, TBk, rfl, by decide, iTBk, ma_in (by decide +kernel) rfl, ftBk, nmBk, Or.inl rfl⟩ -- DockBook.now
theorem fwBk_init_41 : ma_FW mBk_init 4 7 41 := ⟨RBk, TBk, rfl, by decide, iTBk, ma_in (by decide +kernel) rfl, ftBk, nmBk, Or.inl rfl⟩ -- DockBook.lastWasExact
theorem fwBk_init_45 : ma_FW mBk_init 4 8 45 := ⟨RBk, TBk, rfl, by decide, iTBk, ma_in (by decide +kernel) rfl, ftBk, nmBk, Or.inl rfl⟩ -- DockBook.lastMoved
theorem flBk_11 : ma_FL "DockBook" 4 0 11 := ⟨RBk, TBk, rfl, by decide, iTBk, ma_in (by decide +kernel) rfl, ftBk, nmBk⟩ -- DockBook.doors
theorem nwBk_9 : ma_NW "DockBook" 0 9 := ⟨RDo, TDo, rfl, iTDo, ma_in (by decide +kernel) rfl, ma_in (by decide +kernel) rfl, ma_in (by decide +kernel) rfl, ftDo, dfDo⟩
theorem cwmDo_init : ma_CW mDo_init := Or.inl ⟨rfl, ma_in (by decide +kernel) rfl⟩
theorem vwBk_48 : ma_JW "DockBook" 48 mDo_init 0 "DockBook" := ⟨ma_in (by decide +kernel) rfl, ma_in (by decide +kernel) rfl, rfl, ⟨by decide +kernel, by decide +kernel⟩, by decide +kernel, ma_in (by decide +kernel) rfl, cwmDo_init, by decide +kernel, by decide⟩
theorem flBk_17 : ma_FL "DockBook" 4 1 17 := ⟨RBk, TBk, rfl, by decide, iTBk, ma_in (by decide +kernel) rfl, ftBk, nmBk⟩ -- DockBook.trucks
theorem nwBk_15 : ma_NW "DockBook" 3 15 := ⟨RTr, TTr, rfl, iTTr, ma_in (by decide +kernel) rfl, ma_in (by decide +kernel) rfl, ma_in (by decide +kernel) rfl, ftTr, dfTr⟩
theorem cwmTr_init : ma_CW mTr_init := Or.inl ⟨rfl, ma_in (by decide +kernel) rfl⟩
theorem vwBk_49 : ma_IW "DockBook" 49 mTr_init 1 := ⟨ma_in (by decide +kernel) rfl, ma_in (by decide +kernel) rfl, rfl, ⟨by decide +kernel, by decide +kernel⟩, by decide +kernel, ma_in (by decide +kernel) rfl, cwmTr_init, by decide +kernel, by decide⟩
theorem flBk_21 : ma_FL "DockBook" 4 2 21 := ⟨RBk, TBk, rfl, by decide, iTBk, ma_in (by decide +kernel) rfl, ftBk, nmBk⟩ -- DockBook.waiting
theorem cwmBk_requireRange : ma_CW mBk_requireRange := Or.inl ⟨rfl, ma_in (by decide +kernel) rfl⟩
theorem vwBk_52 : ma_SW "DockBook" 52 mBk_requireRange 3 := ⟨ma_in (by decide +kernel) rfl, ma_in (by decide +kernel) rfl, ma_in (by decide +kernel) rfl, ⟨by decide +kernel, by decide +kernel⟩, by decide +kernel, cwmBk_requireRange, by decide +kernel, by decide⟩
theorem flBk_31 : ma_FL "DockBook" 4 4 31 := ⟨RBk, TBk, rfl, by decide, iTBk, ma_in (by decide +kernel) rfl, ftBk, nmBk⟩ -- DockBook.doorCount
theorem fwBk_door_63 : ma_FW mBk_door 0 0 63 := ⟨RDo, TDo, rfl, by decide, iTDo, ma_in (by decide +kernel) rfl, ftDo, nmDo, Or.inl rfl⟩ -- DockBook$Door.kinds
theorem fwBk_door_66 : ma_FW mBk_door 0 1 66 := ⟨RDo, TDo, rfl, by decide, iTDo, ma_in (by decide +kernel) rfl, ftDo, nmDo, Or.inl rfl⟩ -- DockBook$Door.from
theorem fwBk_door_69 : ma_FW mBk_door 0 2 69 := ⟨RDo, TDo, rfl, by decide, iTDo, ma_in (by decide +kernel) rfl, ftDo, nmDo, Or.inl rfl⟩ -- DockBook$Door.to
theorem fwBk_door_31 : ma_FW mBk_door 4 4 31 := ⟨RBk, TBk, rfl, by decide, iTBk, ma_in (by decide +kernel) rfl, ftBk, nmBk, Or.inl rfl⟩ -- DockBook.doorCount
theorem flBk_35 : ma_FL "DockBook" 4 5 35 := ⟨RBk, TBk, rfl, by decide, iTBk, ma_in (by decide +kernel) rfl, ftBk, nmBk⟩ -- DockBook.truckCount
theorem fwBk_truck_74 : ma_FW mBk_truck 3 1 74 := ⟨RTr, TTr, rfl, by decide, iTTr, ma_in (by decide +kernel) rfl, ftTr, nmTr, Or.inl rfl⟩ -- DockBook$Truck.kind
theorem fwBk_truck_77 : ma_FW mBk_truck 3 2 77 := ⟨RTr, TTr, rfl, by decide, iTTr, ma_in (by decide +kernel) rfl, ftTr, nmTr, Or.inl rfl⟩ -- DockBook$Truck.arrival
theorem fwBk_truck_80 : ma_FW mBk_truck 3 3 80 := ⟨RTr, TTr, rfl, by decide, iTTr, ma_in (by decide +kernel) rfl, ftTr, nmTr, Or.inl rfl⟩ -- DockBook$Truck.need
theorem fwBk_truck_83 : ma_FW mBk_truck 3 4 83 := ⟨RTr, TTr, rfl, by decide, iTTr, ma_in (by decide +kernel) rfl, ftTr, nmTr, Or.inl rfl⟩ -- DockBook$Truck.rank
theorem fwBk_truck_35 : ma_FW mBk_truck 4 5 35 := ⟨RBk, TBk, rfl, by decide, iTBk, ma_in (by decide +kernel) rfl, ftBk, nmBk, Or.inl rfl⟩ -- DockBook.truckCount
theorem cwmBk_gatherWaiting : ma_CW mBk_gatherWaiting := Or.inl ⟨rfl, ma_in (by decide +kernel) rfl⟩
theorem hvmBk_gatherWaiting : Cond.instanceMethod mBk_gatherWaiting.1 ∈ maT ∧ (∃ q, maCl[4]? = some q ∧ Cond.selects q.1 mBk_gatherWaiting.1 mBk_gatherWaiting.1 ∈ maT) := ⟨ma_in (by decide +kernel) rfl, _, rfl, ma_in (by decide +kernel) rfl⟩
theorem vwBk_86 : ma_VW "DockBook" 86 mBk_gatherWaiting 4 0 := ⟨ma_in (by decide +kernel) rfl, hvmBk_gatherWaiting.1, hvmBk_gatherWaiting.2, ⟨by decide +kernel, by decide +kernel⟩, by decide +kernel, cwmBk_gatherWaiting, by decide +kernel, by decide⟩
theorem cwmTr_rememberPlan : ma_CW mTr_rememberPlan := Or.inl ⟨rfl, ma_in (by decide +kernel) rfl⟩
theorem hvmTr_rememberPlan : Cond.instanceMethod mTr_rememberPlan.1 ∈ maT ∧ (∃ q, maCl[3]? = some q ∧ Cond.selects q.1 mTr_rememberPlan.1 mTr_rememberPlan.1 ∈ maT) := ⟨ma_in (by decide +kernel) rfl, _, rfl, ma_in (by decide +kernel) rfl⟩
theorem vwBk_90 : ma_VW "DockBook" 90 mTr_rememberPlan 3 0 := ⟨ma_in (by decide +kernel) rfl, hvmTr_rememberPlan.1, hvmTr_rememberPlan.2, ⟨by decide +kernel, by decide +kernel⟩, by decide +kernel, cwmTr_rememberPlan, by decide +kernel, by decide⟩
theorem fwBk_assign_41 : ma_FW mBk_assign 4 7 41 := ⟨RBk, TBk, rfl, by decide, iTBk, ma_in (by decide +kernel) rfl, ftBk, nmBk, Or.inl rfl⟩ -- DockBook.lastWasExact
theorem flBk_41 : ma_FL "DockBook" 4 7 41 := ⟨RBk, TBk, rfl, by decide, iTBk, ma_in (by decide +kernel) rfl, ftBk, nmBk⟩ -- DockBook.lastWasExact
theorem flBk_27 : ma_FL "DockBook" 4 3 27 := ⟨RBk, TBk, rfl, by decide, iTBk, ma_in (by decide +kernel) rfl, ftBk, nmBk⟩ -- DockBook.doorChoice
theorem flBk_38 : ma_FL "DockBook" 4 6 38 := ⟨RBk, TBk, rfl, by decide, iTBk, ma_in (by decide +kernel) rfl, ftBk, nmBk⟩ -- DockBook.now
theorem cwmCh_planExactly : ma_CW mCh_planExactly := Or.inl ⟨rfl, ma_in (by decide +kernel) rfl⟩
theorem hvmCh_planExactly : Cond.instanceMethod mCh_planExactly.1 ∈ maT ∧ (∃ q, maCl[1]? = some q ∧ Cond.selects q.1 mCh_planExactly.1 mCh_planExactly.1 ∈ maT) := ⟨ma_in (by decide +kernel) rfl, _, rfl, ma_in (by decide +kernel) rfl⟩
theorem vwBk_93 : ma_VW "DockBook" 93 mCh_planExactly 1 5 := ⟨ma_in (by decide +kernel) rfl, hvmCh_planExactly.1, hvmCh_planExactly.2, ⟨by decide +kernel, by decide +kernel⟩, by decide +kernel, cwmCh_planExactly, by decide +kernel, by decide⟩
theorem cwmBk_planByRule : ma_CW mBk_planByRule := Or.inl ⟨rfl, ma_in (by decide +kernel) rfl⟩
theorem hvmBk_planByRule : Cond.instanceMethod mBk_planByRule.1 ∈ maT ∧ (∃ q, maCl[4]? = some q ∧ Cond.selects q.1 mBk_planByRule.1 mBk_planByRule.1 ∈ maT) := ⟨ma_in (by decide +kernel) rfl, _, rfl, ma_in (by decide +kernel) rfl⟩
theorem vwBk_97 : ma_VW "DockBook" 97 mBk_planByRule 4 1 := ⟨ma_in (by decide +kernel) rfl, hvmBk_planByRule.1, hvmBk_planByRule.2, ⟨by decide +kernel, by decide +kernel⟩, by decide +kernel, cwmBk_planByRule, by decide +kernel, by decide⟩
theorem fwBk_assign_45 : ma_FW mBk_assign 4 8 45 := ⟨RBk, TBk, rfl, by decide, iTBk, ma_in (by decide +kernel) rfl, ftBk, nmBk, Or.inl rfl⟩ -- DockBook.lastMoved
theorem flBk_45 : ma_FL "DockBook" 4 8 45 := ⟨RBk, TBk, rfl, by decide, iTBk, ma_in (by decide +kernel) rfl, ftBk, nmBk⟩ -- DockBook.lastMoved
theorem cwmTr_hasMoved : ma_CW mTr_hasMoved := Or.inl ⟨rfl, ma_in (by decide +kernel) rfl⟩
theorem hvmTr_hasMoved : Cond.instanceMethod mTr_hasMoved.1 ∈ maT ∧ (∃ q, maCl[3]? = some q ∧ Cond.selects q.1 mTr_hasMoved.1 mTr_hasMoved.1 ∈ maT) := ⟨ma_in (by decide +kernel) rfl, _, rfl, ma_in (by decide +kernel) rfl⟩
theorem vwBk_100 : ma_VW "DockBook" 100 mTr_hasMoved 3 0 := ⟨ma_in (by decide +kernel) rfl, hvmTr_hasMoved.1, hvmTr_hasMoved.2, ⟨by decide +kernel, by decide +kernel⟩, by decide +kernel, cwmTr_hasMoved, by decide +kernel, by decide⟩
theorem cwmBk_planCost : ma_CW mBk_planCost := Or.inl ⟨rfl, ma_in (by decide +kernel) rfl⟩
theorem hvmBk_planCost : Cond.instanceMethod mBk_planCost.1 ∈ maT ∧ (∃ q, maCl[4]? = some q ∧ Cond.selects q.1 mBk_planCost.1 mBk_planCost.1 ∈ maT) := ⟨ma_in (by decide +kernel) rfl, _, rfl, ma_in (by decide +kernel) rfl⟩
theorem vwBk_104 : ma_VW "DockBook" 104 mBk_planCost 4 0 := ⟨ma_in (by decide +kernel) rfl, hvmBk_planCost.1, hvmBk_planCost.2, ⟨by decide +kernel, by decide +kernel⟩, by decide +kernel, cwmBk_planCost, by decide +kernel, by decide⟩
theorem flBk_107 : ma_FL "DockBook" 3 5 107 := ⟨RTr, TTr, rfl, by decide, iTTr, ma_in (by decide +kernel) rfl, ftTr, nmTr⟩ -- DockBook$Truck.state
theorem cwmBk_costAlone : ma_CW mBk_costAlone := Or.inl ⟨rfl, ma_in (by decide +kernel) rfl⟩
theorem hvmBk_costAlone : Cond.instanceMethod mBk_costAlone.1 ∈ maT ∧ (∃ q, maCl[4]? = some q ∧ Cond.selects q.1 mBk_costAlone.1 mBk_costAlone.1 ∈ maT) := ⟨ma_in (by decide +kernel) rfl, _, rfl, ma_in (by decide +kernel) rfl⟩
theorem vwBk_110 : ma_VW "DockBook" 110 mBk_costAlone 4 1 := ⟨ma_in (by decide +kernel) rfl, hvmBk_costAlone.1, hvmBk_costAlone.2, ⟨by decide +kernel, by decide +kernel⟩, by decide +kernel, cwmBk_costAlone, by decide +kernel, by decide⟩
theorem cwmBk_truckNumbered : ma_CW mBk_truckNumbered := Or.inl ⟨rfl, ma_in (by decide +kernel) rfl⟩
theorem hvmBk_truckNumbered : Cond.instanceMethod mBk_truckNumbered.1 ∈ maT ∧ (∃ q, maCl[4]? = some q ∧ Cond.selects q.1 mBk_truckNumbered.1 mBk_truckNumbered.1 ∈ maT) := ⟨ma_in (by decide +kernel) rfl, _, rfl, ma_in (by decide +kernel) rfl⟩
theorem vwBk_114 : ma_VW "DockBook" 114 mBk_truckNumbered 4 1 := ⟨ma_in (by decide +kernel) rfl, hvmBk_truckNumbered.1, hvmBk_truckNumbered.2, ⟨by decide +kernel, by decide +kernel⟩, by decide +kernel, cwmBk_truckNumbered, by decide +kernel, by decide⟩
theorem cwmBk_mayBeCalled : ma_CW mBk_mayBeCalled := Or.inl ⟨rfl, ma_in (by decide +kernel) rfl⟩
theorem hvmBk_mayBeCalled : Cond.instanceMethod mBk_mayBeCalled.1 ∈ maT ∧ (∃ q, maCl[4]? = some q ∧ Cond.selects q.1 mBk_mayBeCalled.1 mBk_mayBeCalled.1 ∈ maT) := ⟨ma_in (by decide +kernel) rfl, _, rfl, ma_in (by decide +kernel) rfl⟩
theorem vwBk_118 : ma_VW "DockBook" 118 mBk_mayBeCalled 4 1 := ⟨ma_in (by decide +kernel) rfl, hvmBk_mayBeCalled.1, hvmBk_mayBeCalled.2, ⟨by decide +kernel, by decide +kernel⟩, by decide +kernel, cwmBk_mayBeCalled, by decide +kernel, by decide⟩
theorem flBk_127 : ma_FL "DockBook" 3 6 127 := ⟨RTr, TTr, rfl, by decide, iTTr, ma_in (by decide +kernel) rfl, ftTr, nmTr⟩ -- DockBook$Truck.door
theorem cwmBk_doorNumbered : ma_CW mBk_doorNumbered := Or.inl ⟨rfl, ma_in (by decide +kernel) rfl⟩
theorem hvmBk_doorNumbered : Cond.instanceMethod mBk_doorNumbered.1 ∈ maT ∧ (∃ q, maCl[4]? = some q ∧ Cond.selects q.1 mBk_doorNumbered.1 mBk_doorNumbered.1 ∈ maT) := ⟨ma_in (by decide +kernel) rfl, _, rfl, ma_in (by decide +kernel) rfl⟩
theorem vwBk_130 : ma_VW "DockBook" 130 mBk_doorNumbered 4 1 := ⟨ma_in (by decide +kernel) rfl, hvmBk_doorNumbered.1, hvmBk_doorNumbered.2, ⟨by decide +kernel, by decide +kernel⟩, by decide +kernel, cwmBk_doorNumbered, by decide +kernel, by decide⟩
theorem fwBk_call_107 : ma_FW mBk_call 3 5 107 := ⟨RTr, TTr, rfl, by decide, iTTr, ma_in (by decide +kernel) rfl, ftTr, nmTr, Or.inl rfl⟩ -- DockBook$Truck.state
theorem fwBk_call_134 : ma_FW mBk_call 3 7 134 := ⟨RTr, TTr, rfl, by decide, iTTr, ma_in (by decide +kernel) rfl, ftTr, nmTr, Or.inl rfl⟩ -- DockBook$Truck.start
theorem fwBk_call_137 : ma_FW mBk_call 0 4 137 := ⟨RDo, TDo, rfl, by decide, iTDo, ma_in (by decide +kernel) rfl, ftDo, nmDo, Or.inl rfl⟩ -- DockBook$Door.truckAtIt
theorem flBk_80 : ma_FL "DockBook" 3 3 80 := ⟨RTr, TTr, rfl, by decide, iTTr, ma_in (by decide +kernel) rfl, ftTr, nmTr⟩ -- DockBook$Truck.need
theorem fwBk_call_140 : ma_FW mBk_call 0 5 140 := ⟨RDo, TDo, rfl, by decide, iTDo, ma_in (by decide +kernel) rfl, ftDo, nmDo, Or.inl rfl⟩ -- DockBook$Door.freeAt
theorem cwmTr_tellSeal : ma_CW mTr_tellSeal := Or.inl ⟨rfl, ma_in (by decide +kernel) rfl⟩
theorem hvmTr_tellSeal : Cond.instanceMethod mTr_tellSeal.1 ∈ maT ∧ (∃ q, maCl[3]? = some q ∧ Cond.selects q.1 mTr_tellSeal.1 mTr_tellSeal.1 ∈ maT) := ⟨ma_in (by decide +kernel) rfl, _, rfl, ma_in (by decide +kernel) rfl⟩
theorem vwBk_145 : ma_VW "DockBook" 145 mTr_tellSeal 3 1 := ⟨ma_in (by decide +kernel) rfl, hvmTr_tellSeal.1, hvmTr_tellSeal.2, ⟨by decide +kernel, by decide +kernel⟩, by decide +kernel, cwmTr_tellSeal, by decide +kernel, by decide⟩
theorem cwmBk_requireState : ma_CW mBk_requireState := Or.inl ⟨rfl, ma_in (by decide +kernel) rfl⟩
theorem vwBk_149 : ma_SW "DockBook" 149 mBk_requireState 2 := ⟨ma_in (by decide +kernel) rfl, ma_in (by decide +kernel) rfl, ma_in (by decide +kernel) rfl, ⟨by decide +kernel, by decide +kernel⟩, by decide +kernel, cwmBk_requireState, by decide +kernel, by decide⟩
theorem fwBk_load_153 : ma_FW mBk_load 3 12 153 := ⟨RTr, TTr, rfl, by decide, iTTr, ma_in (by decide +kernel) rfl, ftTr, nmTr, Or.inl rfl⟩ -- DockBook$Truck.loadIsRight
theorem flBk_153 : ma_FL "DockBook" 3 12 153 := ⟨RTr, TTr, rfl, by decide, iTTr, ma_in (by decide +kernel) rfl, ftTr, nmTr⟩ -- DockBook$Truck.loadIsRight
theorem flBk_156 : ma_FL "DockBook" 3 11 156 := ⟨RTr, TTr, rfl, by decide, iTTr, ma_in (by decide +kernel) rfl, ftTr, nmTr⟩ -- DockBook$Truck.sealIsSure
theorem flBk_134 : ma_FL "DockBook" 3 7 134 := ⟨RTr, TTr, rfl, by decide, iTTr, ma_in (by decide +kernel) rfl, ftTr, nmTr⟩ -- DockBook$Truck.start
theorem fwBk_depart_107 : ma_FW mBk_depart 3 5 107 := ⟨RTr, TTr, rfl, by decide, iTTr, ma_in (by decide +kernel) rfl, ftTr, nmTr, Or.inl rfl⟩ -- DockBook$Truck.state
theorem fwBk_depart_159 : ma_FW mBk_depart 3 13 159 := ⟨RTr, TTr, rfl, by decide, iTTr, ma_in (by decide +kernel) rfl, ftTr, nmTr, Or.inl rfl⟩ -- DockBook$Truck.departure
theorem fwBk_depart_137 : ma_FW mBk_depart 0 4 137 := ⟨RDo, TDo, rfl, by decide, iTDo, ma_in (by decide +kernel) rfl, ftDo, nmDo, Or.inl rfl⟩ -- DockBook$Door.truckAtIt
theorem fwBk_depart_140 : ma_FW mBk_depart 0 5 140 := ⟨RDo, TDo, rfl, by decide, iTDo, ma_in (by decide +kernel) rfl, ftDo, nmDo, Or.inl rfl⟩ -- DockBook$Door.freeAt
theorem flBk_162 : ma_FL "DockBook" 0 6 162 := ⟨RDo, TDo, rfl, by decide, iTDo, ma_in (by decide +kernel) rfl, ftDo, nmDo⟩ -- DockBook$Door.departed
theorem fwBk_depart_162 : ma_FW mBk_depart 0 6 162 := ⟨RDo, TDo, rfl, by decide, iTDo, ma_in (by decide +kernel) rfl, ftDo, nmDo, Or.inl rfl⟩ -- DockBook$Door.departed
theorem fwBk_late_77 : ma_FW mBk_late 3 2 77 := ⟨RTr, TTr, rfl, by decide, iTTr, ma_in (by decide +kernel) rfl, ftTr, nmTr, Or.inl rfl⟩ -- DockBook$Truck.arrival
theorem cwmTr_setPlan : ma_CW mTr_setPlan := Or.inl ⟨rfl, ma_in (by decide +kernel) rfl⟩
theorem hvmTr_setPlan : Cond.instanceMethod mTr_setPlan.1 ∈ maT ∧ (∃ q, maCl[3]? = some q ∧ Cond.selects q.1 mTr_setPlan.1 mTr_setPlan.1 ∈ maT) := ⟨ma_in (by decide +kernel) rfl, _, rfl, ma_in (by decide +kernel) rfl⟩
theorem vwBk_165 : ma_VW "DockBook" 165 mTr_setPlan 3 2 := ⟨ma_in (by decide +kernel) rfl, hvmTr_setPlan.1, hvmTr_setPlan.2, ⟨by decide +kernel, by decide +kernel⟩, by decide +kernel, cwmTr_setPlan, by decide +kernel, by decide⟩
theorem fwBk_cancel_107 : ma_FW mBk_cancel 3 5 107 := ⟨RTr, TTr, rfl, by decide, iTTr, ma_in (by decide +kernel) rfl, ftTr, nmTr, Or.inl rfl⟩ -- DockBook$Truck.state
theorem flBk_169 : ma_FL "DockBook" 0 3 169 := ⟨RDo, TDo, rfl, by decide, iTDo, ma_in (by decide +kernel) rfl, ftDo, nmDo⟩ -- DockBook$Door.isOut
theorem fwBk_out_169 : ma_FW mBk_out 0 3 169 := ⟨RDo, TDo, rfl, by decide, iTDo, ma_in (by decide +kernel) rfl, ftDo, nmDo, Or.inl rfl⟩ -- DockBook$Door.isOut
theorem cwmTr_isPlannedFor : ma_CW mTr_isPlannedFor := Or.inl ⟨rfl, ma_in (by decide +kernel) rfl⟩
theorem hvmTr_isPlannedFor : Cond.instanceMethod mTr_isPlannedFor.1 ∈ maT ∧ (∃ q, maCl[3]? = some q ∧ Cond.selects q.1 mTr_isPlannedFor.1 mTr_isPlannedFor.1 ∈ maT) := ⟨ma_in (by decide +kernel) rfl, _, rfl, ma_in (by decide +kernel) rfl⟩
theorem vwBk_174 : ma_VW "DockBook" 174 mTr_isPlannedFor 3 1 := ⟨ma_in (by decide +kernel) rfl, hvmTr_isPlannedFor.1, hvmTr_isPlannedFor.2, ⟨by decide +kernel, by decide +kernel⟩, by decide +kernel, cwmTr_isPlannedFor, by decide +kernel, by decide⟩
theorem fwBk_pass_38 : ma_FW mBk_pass 4 6 38 := ⟨RBk, TBk, rfl, by decide, iTBk, ma_in (by decide +kernel) rfl, ftBk, nmBk, Or.inl rfl⟩ -- DockBook.now
theorem cwmBk_plannedBefore : ma_CW mBk_plannedBefore := Or.inl ⟨rfl, ma_in (by decide +kernel) rfl⟩
theorem hvmBk_plannedBefore : Cond.instanceMethod mBk_plannedBefore.1 ∈ maT ∧ (∃ q, maCl[4]? = some q ∧ Cond.selects q.1 mBk_plannedBefore.1 mBk_plannedBefore.1 ∈ maT) := ⟨ma_in (by decide +kernel) rfl, _, rfl, ma_in (by decide +kernel) rfl⟩
theorem vwBk_178 : ma_VW "DockBook" 178 mBk_plannedBefore 4 1 := ⟨ma_in (by decide +kernel) rfl, hvmBk_plannedBefore.1, hvmBk_plannedBefore.2, ⟨by decide +kernel, by decide +kernel⟩, by decide +kernel, cwmBk_plannedBefore, by decide +kernel, by decide⟩
theorem flBk_77 : ma_FL "DockBook" 3 2 77 := ⟨RTr, TTr, rfl, by decide, iTTr, ma_in (by decide +kernel) rfl, ftTr, nmTr⟩ -- DockBook$Truck.arrival
theorem flBk_83 : ma_FL "DockBook" 3 4 83 := ⟨RTr, TTr, rfl, by decide, iTTr, ma_in (by decide +kernel) rfl, ftTr, nmTr⟩ -- DockBook$Truck.rank
theorem flBk_74 : ma_FL "DockBook" 3 1 74 := ⟨RTr, TTr, rfl, by decide, iTTr, ma_in (by decide +kernel) rfl, ftTr, nmTr⟩ -- DockBook$Truck.kind
theorem flBk_159 : ma_FL "DockBook" 3 13 159 := ⟨RTr, TTr, rfl, by decide, iTTr, ma_in (by decide +kernel) rfl, ftTr, nmTr⟩ -- DockBook$Truck.departure
theorem flBk_137 : ma_FL "DockBook" 0 4 137 := ⟨RDo, TDo, rfl, by decide, iTDo, ma_in (by decide +kernel) rfl, ftDo, nmDo⟩ -- DockBook$Door.truckAtIt
theorem cwmBk_plannedFor : ma_CW mBk_plannedFor := Or.inl ⟨rfl, ma_in (by decide +kernel) rfl⟩
theorem hvmBk_plannedFor : Cond.instanceMethod mBk_plannedFor.1 ∈ maT ∧ (∃ q, maCl[4]? = some q ∧ Cond.selects q.1 mBk_plannedFor.1 mBk_plannedFor.1 ∈ maT) := ⟨ma_in (by decide +kernel) rfl, _, rfl, ma_in (by decide +kernel) rfl⟩
theorem vwBk_191 : ma_VW "DockBook" 191 mBk_plannedFor 4 1 := ⟨ma_in (by decide +kernel) rfl, hvmBk_plannedFor.1, hvmBk_plannedFor.2, ⟨by decide +kernel, by decide +kernel⟩, by decide +kernel, cwmBk_plannedFor, by decide +kernel, by decide⟩
theorem flBk_63 : ma_FL "DockBook" 0 0 63 := ⟨RDo, TDo, rfl, by decide, iTDo, ma_in (by decide +kernel) rfl, ftDo, nmDo⟩ -- DockBook$Door.kinds
theorem cwmBk_trucksThatAre : ma_CW mBk_trucksThatAre := Or.inl ⟨rfl, ma_in (by decide +kernel) rfl⟩
theorem hvmBk_trucksThatAre : Cond.instanceMethod mBk_trucksThatAre.1 ∈ maT ∧ (∃ q, maCl[4]? = some q ∧ Cond.selects q.1 mBk_trucksThatAre.1 mBk_trucksThatAre.1 ∈ maT) := ⟨ma_in (by decide +kernel) rfl, _, rfl, ma_in (by decide +kernel) rfl⟩
theorem vwBk_196 : ma_VW "DockBook" 196 mBk_trucksThatAre 4 1 := ⟨ma_in (by decide +kernel) rfl, hvmBk_trucksThatAre.1, hvmBk_trucksThatAre.2, ⟨by decide +kernel, by decide +kernel⟩, by decide +kernel, cwmBk_trucksThatAre, by decide +kernel, by decide⟩
theorem flBk_207 : ma_FL "DockBook" 3 0 207 := ⟨RTr, TTr, rfl, by decide, iTTr, ma_in (by decide +kernel) rfl, ftTr, nmTr⟩ -- DockBook$Truck.number
theorem cwmTr_costAt : ma_CW mTr_costAt := Or.inl ⟨rfl, ma_in (by decide +kernel) rfl⟩
theorem hvmTr_costAt : Cond.instanceMethod mTr_costAt.1 ∈ maT ∧ (∃ q, maCl[3]? = some q ∧ Cond.selects q.1 mTr_costAt.1 mTr_costAt.1 ∈ maT) := ⟨ma_in (by decide +kernel) rfl, _, rfl, ma_in (by decide +kernel) rfl⟩
theorem vwBk_210 : ma_VW "DockBook" 210 mTr_costAt 3 1 := ⟨ma_in (by decide +kernel) rfl, hvmTr_costAt.1, hvmTr_costAt.2, ⟨by decide +kernel, by decide +kernel⟩, by decide +kernel, cwmTr_costAt, by decide +kernel, by decide⟩
theorem cwmDo_readyAt : ma_CW mDo_readyAt := Or.inl ⟨rfl, ma_in (by decide +kernel) rfl⟩
theorem hvmDo_readyAt : Cond.instanceMethod mDo_readyAt.1 ∈ maT ∧ (∃ q, maCl[0]? = some q ∧ Cond.selects q.1 mDo_readyAt.1 mDo_readyAt.1 ∈ maT) := ⟨ma_in (by decide +kernel) rfl, _, rfl, ma_in (by decide +kernel) rfl⟩
theorem vwBk_213 : ma_VW "DockBook" 213 mDo_readyAt 0 1 := ⟨ma_in (by decide +kernel) rfl, hvmDo_readyAt.1, hvmDo_readyAt.2, ⟨by decide +kernel, by decide +kernel⟩, by decide +kernel, cwmDo_readyAt, by decide +kernel, by decide⟩
theorem cwmDo_startOf : ma_CW mDo_startOf := Or.inl ⟨rfl, ma_in (by decide +kernel) rfl⟩
theorem hvmDo_startOf : Cond.instanceMethod mDo_startOf.1 ∈ maT ∧ (∃ q, maCl[0]? = some q ∧ Cond.selects q.1 mDo_startOf.1 mDo_startOf.1 ∈ maT) := ⟨ma_in (by decide +kernel) rfl, _, rfl, ma_in (by decide +kernel) rfl⟩
theorem vwBk_216 : ma_VW "DockBook" 216 mDo_startOf 0 2 := ⟨ma_in (by decide +kernel) rfl, hvmDo_startOf.1, hvmDo_startOf.2, ⟨by decide +kernel, by decide +kernel⟩, by decide +kernel, cwmDo_startOf, by decide +kernel, by decide⟩
theorem mtBk_220 : Cond.methodLink "DockBook" 220 Lib.Math.min.name ∈ maT ∧ Cond.static Lib.Math.min.name ∈ maT ∧ Cond.initialized "java/lang/Math" ∈ maT ∧ Cond.code Lib.Math.min.name Lib.Math.min.code 2 (some .int) ∈ maT := ⟨ma_in (by decide +kernel) rfl, ma_in (by decide +kernel) rfl, ma_in (by decide +kernel) rfl, ma_in (by decide +kernel) rfl⟩
theorem flBk_69 : ma_FL "DockBook" 0 2 69 := ⟨RDo, TDo, rfl, by decide, iTDo, ma_in (by decide +kernel) rfl, ftDo, nmDo⟩ -- DockBook$Door.to
theorem cwmBk_sortByRule : ma_CW mBk_sortByRule := Or.inl ⟨rfl, ma_in (by decide +kernel) rfl⟩
theorem hvmBk_sortByRule : Cond.instanceMethod mBk_sortByRule.1 ∈ maT ∧ (∃ q, maCl[4]? = some q ∧ Cond.selects q.1 mBk_sortByRule.1 mBk_sortByRule.1 ∈ maT) := ⟨ma_in (by decide +kernel) rfl, _, rfl, ma_in (by decide +kernel) rfl⟩
theorem vwBk_226 : ma_VW "DockBook" 226 mBk_sortByRule 4 1 := ⟨ma_in (by decide +kernel) rfl, hvmBk_sortByRule.1, hvmBk_sortByRule.2, ⟨by decide +kernel, by decide +kernel⟩, by decide +kernel, cwmBk_sortByRule, by decide +kernel, by decide⟩
theorem fwBk_planByRule_229 : ma_FW mBk_planByRule 0 7 229 := ⟨RDo, TDo, rfl, by decide, iTDo, ma_in (by decide +kernel) rfl, ftDo, nmDo, Or.inl rfl⟩ -- DockBook$Door.nextReady
theorem cwmBk_placeByRule : ma_CW mBk_placeByRule := Or.inl ⟨rfl, ma_in (by decide +kernel) rfl⟩
theorem hvmBk_placeByRule : Cond.instanceMethod mBk_placeByRule.1 ∈ maT ∧ (∃ q, maCl[4]? = some q ∧ Cond.selects q.1 mBk_placeByRule.1 mBk_placeByRule.1 ∈ maT) := ⟨ma_in (by decide +kernel) rfl, _, rfl, ma_in (by decide +kernel) rfl⟩
theorem vwBk_232 : ma_VW "DockBook" 232 mBk_placeByRule 4 1 := ⟨ma_in (by decide +kernel) rfl, hvmBk_placeByRule.1, hvmBk_placeByRule.2, ⟨by decide +kernel, by decide +kernel⟩, by decide +kernel, cwmBk_placeByRule, by decide +kernel, by decide⟩
theorem cwmTr_goesBefore : ma_CW mTr_goesBefore := Or.inl ⟨rfl, ma_in (by decide +kernel) rfl⟩
theorem hvmTr_goesBefore : Cond.instanceMethod mTr_goesBefore.1 ∈ maT ∧ (∃ q, maCl[3]? = some q ∧ Cond.selects q.1 mTr_goesBefore.1 mTr_goesBefore.1 ∈ maT) := ⟨ma_in (by decide +kernel) rfl, _, rfl, ma_in (by decide +kernel) rfl⟩
theorem vwBk_236 : ma_VW "DockBook" 236 mTr_goesBefore 3 1 := ⟨ma_in (by decide +kernel) rfl, hvmTr_goesBefore.1, hvmTr_goesBefore.2, ⟨by decide +kernel, by decide +kernel⟩, by decide +kernel, cwmTr_goesBefore, by decide +kernel, by decide⟩
theorem flBk_229 : ma_FL "DockBook" 0 7 229 := ⟨RDo, TDo, rfl, by decide, iTDo, ma_in (by decide +kernel) rfl, ftDo, nmDo⟩ -- DockBook$Door.nextReady
theorem fwBk_placeByRule_229 : ma_FW mBk_placeByRule 0 7 229 := ⟨RDo, TDo, rfl, by decide, iTDo, ma_in (by decide +kernel) rfl, ftDo, nmDo, Or.inl rfl⟩ -- DockBook$Door.nextReady
theorem obDo_3 : Cond.methodLink "DockBook$Door" 3 objectInit ∈ maT ∧ Cond.instanceMethod objectInit ∈ maT ∧ Cond.code objectInit ⟨#[0xb1]⟩ 1 none ∈ maT := ⟨ma_in (by decide +kernel) rfl, ma_in (by decide +kernel) rfl, ma_in (by decide +kernel) rfl⟩
theorem fwDo_init_9 : ma_FW mDo_init 0 0 9 := ⟨RDo, TDo, rfl, by decide, iTDo, ma_in (by decide +kernel) rfl, ftDo, nmDo, Or.inl rfl⟩ -- DockBook$Door.kinds
theorem fwDo_init_15 : ma_FW mDo_init 0 1 15 := ⟨RDo, TDo, rfl, by decide, iTDo, ma_in (by decide +kernel) rfl, ftDo, nmDo, Or.inl rfl⟩ -- DockBook$Door.from
theorem fwDo_init_18 : ma_FW mDo_init 0 2 18 := ⟨RDo, TDo, rfl, by decide, iTDo, ma_in (by decide +kernel) rfl, ftDo, nmDo, Or.inl rfl⟩ -- DockBook$Door.to
theorem fwDo_init_21 : ma_FW mDo_init 0 3 21 := ⟨RDo, TDo, rfl, by decide, iTDo, ma_in (by decide +kernel) rfl, ftDo, nmDo, Or.inl rfl⟩ -- DockBook$Door.isOut
theorem fwDo_init_25 : ma_FW mDo_init 0 4 25 := ⟨RDo, TDo, rfl, by decide, iTDo, ma_in (by decide +kernel) rfl, ftDo, nmDo, Or.inl rfl⟩ -- DockBook$Door.truckAtIt
theorem fwDo_init_28 : ma_FW mDo_init 0 5 28 := ⟨RDo, TDo, rfl, by decide, iTDo, ma_in (by decide +kernel) rfl, ftDo, nmDo, Or.inl rfl⟩ -- DockBook$Door.freeAt
theorem fwDo_init_31 : ma_FW mDo_init 0 6 31 := ⟨RDo, TDo, rfl, by decide, iTDo, ma_in (by decide +kernel) rfl, ftDo, nmDo, Or.inl rfl⟩ -- DockBook$Door.departed
theorem fwDo_init_34 : ma_FW mDo_init 0 7 34 := ⟨RDo, TDo, rfl, by decide, iTDo, ma_in (by decide +kernel) rfl, ftDo, nmDo, Or.inl rfl⟩ -- DockBook$Door.nextReady
theorem flDo_15 : ma_FL "DockBook$Door" 0 1 15 := ⟨RDo, TDo, rfl, by decide, iTDo, ma_in (by decide +kernel) rfl, ftDo, nmDo⟩ -- DockBook$Door.from
theorem flDo_28 : ma_FL "DockBook$Door" 0 5 28 := ⟨RDo, TDo, rfl, by decide, iTDo, ma_in (by decide +kernel) rfl, ftDo, nmDo⟩ -- DockBook$Door.freeAt
theorem mtDo_37 : Cond.methodLink "DockBook$Door" 37 Lib.Math.max.name ∈ maT ∧ Cond.static Lib.Math.max.name ∈ maT ∧ Cond.initialized "java/lang/Math" ∈ maT ∧ Cond.code Lib.Math.max.name Lib.Math.max.code 2 (some .int) ∈ maT := ⟨ma_in (by decide +kernel) rfl, ma_in (by decide +kernel) rfl, ma_in (by decide +kernel) rfl, ma_in (by decide +kernel) rfl⟩
theorem flDo_21 : ma_FL "DockBook$Door" 0 3 21 := ⟨RDo, TDo, rfl, by decide, iTDo, ma_in (by decide +kernel) rfl, ftDo, nmDo⟩ -- DockBook$Door.isOut
theorem flDo_9 : ma_FL "DockBook$Door" 0 0 9 := ⟨RDo, TDo, rfl, by decide, iTDo, ma_in (by decide +kernel) rfl, ftDo, nmDo⟩ -- DockBook$Door.kinds
theorem flDo_43 : ma_FL "DockBook$Door" 3 1 43 := ⟨RTr, TTr, rfl, by decide, iTTr, ma_in (by decide +kernel) rfl, ftTr, nmTr⟩ -- DockBook$Truck.kind
theorem flDo_48 : ma_FL "DockBook$Door" 3 2 48 := ⟨RTr, TTr, rfl, by decide, iTTr, ma_in (by decide +kernel) rfl, ftTr, nmTr⟩ -- DockBook$Truck.arrival
theorem flDo_51 : ma_FL "DockBook$Door" 3 3 51 := ⟨RTr, TTr, rfl, by decide, iTTr, ma_in (by decide +kernel) rfl, ftTr, nmTr⟩ -- DockBook$Truck.need
theorem flDo_18 : ma_FL "DockBook$Door" 0 2 18 := ⟨RDo, TDo, rfl, by decide, iTDo, ma_in (by decide +kernel) rfl, ftDo, nmDo⟩ -- DockBook$Door.to
theorem obCh_3 : Cond.methodLink "DockBook$DoorChoice" 3 objectInit ∈ maT ∧ Cond.instanceMethod objectInit ∈ maT ∧ Cond.code objectInit ⟨#[0xb1]⟩ 1 none ∈ maT := ⟨ma_in (by decide +kernel) rfl, ma_in (by decide +kernel) rfl, ma_in (by decide +kernel) rfl⟩
theorem fwCh_init_11 : ma_FW mCh_init 1 0 11 := ⟨RCh, TCh, rfl, by decide, iTCh, ma_in (by decide +kernel) rfl, ftCh, nmCh, Or.inr ⟨rfl, rfl, rfl⟩⟩ -- DockBook$DoorChoice.orders
theorem fwCh_init_17 : ma_FW mCh_init 1 1 17 := ⟨RCh, TCh, rfl, by decide, iTCh, ma_in (by decide +kernel) rfl, ftCh, nmCh, Or.inr ⟨rfl, rfl, rfl⟩⟩ -- DockBook$DoorChoice.setAtDoor
theorem fwCh_init_21 : ma_FW mCh_init 1 2 21 := ⟨RCh, TCh, rfl, by decide, iTCh, ma_in (by decide +kernel) rfl, ftCh, nmCh, Or.inr ⟨rfl, rfl, rfl⟩⟩ -- DockBook$DoorChoice.chosen
theorem fwCh_init_24 : ma_FW mCh_init 1 3 24 := ⟨RCh, TCh, rfl, by decide, iTCh, ma_in (by decide +kernel) rfl, ftCh, nmCh, Or.inr ⟨rfl, rfl, rfl⟩⟩ -- DockBook$DoorChoice.best
theorem fwCh_init_28 : ma_FW mCh_init 1 4 28 := ⟨RCh, TCh, rfl, by decide, iTCh, ma_in (by decide +kernel) rfl, ftCh, nmCh, Or.inl rfl⟩ -- DockBook$DoorChoice.bestCost
theorem flCh_11 : ma_FL "DockBook$DoorChoice" 1 0 11 := ⟨RCh, TCh, rfl, by decide, iTCh, ma_in (by decide +kernel) rfl, ftCh, nmCh⟩ -- DockBook$DoorChoice.orders
theorem nwCh_9 : ma_NW "DockBook$DoorChoice" 2 9 := ⟨ROr, TOr, rfl, iTOr, ma_in (by decide +kernel) rfl, ma_in (by decide +kernel) rfl, ma_in (by decide +kernel) rfl, ftOr, dfOr⟩
theorem cwmOr_init : ma_CW mOr_init := Or.inl ⟨rfl, ma_in (by decide +kernel) rfl⟩
theorem vwCh_32 : ma_JW "DockBook$DoorChoice" 32 mOr_init 0 "DockBook" := ⟨ma_in (by decide +kernel) rfl, ma_in (by decide +kernel) rfl, rfl, ⟨by decide +kernel, by decide +kernel⟩, by decide +kernel, ma_in (by decide +kernel) rfl, cwmOr_init, by decide +kernel, by decide⟩
theorem vwCh_33 : ma_VW "DockBook$DoorChoice" 33 mDo_readyAt 0 1 := ⟨ma_in (by decide +kernel) rfl, hvmDo_readyAt.1, hvmDo_readyAt.2, ⟨by decide +kernel, by decide +kernel⟩, by decide +kernel, cwmDo_readyAt, by decide +kernel, by decide⟩
theorem cwmOr_findAll : ma_CW mOr_findAll := Or.inl ⟨rfl, ma_in (by decide +kernel) rfl⟩
theorem hvmOr_findAll : Cond.instanceMethod mOr_findAll.1 ∈ maT ∧ (∃ q, maCl[2]? = some q ∧ Cond.selects q.1 mOr_findAll.1 mOr_findAll.1 ∈ maT) := ⟨ma_in (by decide +kernel) rfl, _, rfl, ma_in (by decide +kernel) rfl⟩
theorem vwCh_39 : ma_VW "DockBook$DoorChoice" 39 mOr_findAll 2 4 := ⟨ma_in (by decide +kernel) rfl, hvmOr_findAll.1, hvmOr_findAll.2, ⟨by decide +kernel, by decide +kernel⟩, by decide +kernel, cwmOr_findAll, by decide +kernel, by decide⟩
theorem flCh_17 : ma_FL "DockBook$DoorChoice" 1 1 17 := ⟨RCh, TCh, rfl, by decide, iTCh, ma_in (by decide +kernel) rfl, ftCh, nmCh⟩ -- DockBook$DoorChoice.setAtDoor
theorem fwCh_planExactly_28 : ma_FW mCh_planExactly 1 4 28 := ⟨RCh, TCh, rfl, by decide, iTCh, ma_in (by decide +kernel) rfl, ftCh, nmCh, Or.inl rfl⟩ -- DockBook$DoorChoice.bestCost
theorem cwmCh_choose : ma_CW mCh_choose := Or.inl ⟨rfl, ma_in (by decide +kernel) rfl⟩
theorem hvmCh_choose : Cond.instanceMethod mCh_choose.1 ∈ maT ∧ (∃ q, maCl[1]? = some q ∧ Cond.selects q.1 mCh_choose.1 mCh_choose.1 ∈ maT) := ⟨ma_in (by decide +kernel) rfl, _, rfl, ma_in (by decide +kernel) rfl⟩
theorem vwCh_43 : ma_VW "DockBook$DoorChoice" 43 mCh_choose 1 4 := ⟨ma_in (by decide +kernel) rfl, hvmCh_choose.1, hvmCh_choose.2, ⟨by decide +kernel, by decide +kernel⟩, by decide +kernel, cwmCh_choose, by decide +kernel, by decide⟩
theorem flCh_24 : ma_FL "DockBook$DoorChoice" 1 3 24 := ⟨RCh, TCh, rfl, by decide, iTCh, ma_in (by decide +kernel) rfl, ftCh, nmCh⟩ -- DockBook$DoorChoice.best
theorem cwmCh_bestSetAt : ma_CW mCh_bestSetAt := Or.inl ⟨rfl, ma_in (by decide +kernel) rfl⟩
theorem hvmCh_bestSetAt : Cond.instanceMethod mCh_bestSetAt.1 ∈ maT ∧ (∃ q, maCl[1]? = some q ∧ Cond.selects q.1 mCh_bestSetAt.1 mCh_bestSetAt.1 ∈ maT) := ⟨ma_in (by decide +kernel) rfl, _, rfl, ma_in (by decide +kernel) rfl⟩
theorem vwCh_47 : ma_VW "DockBook$DoorChoice" 47 mCh_bestSetAt 1 2 := ⟨ma_in (by decide +kernel) rfl, hvmCh_bestSetAt.1, hvmCh_bestSetAt.2, ⟨by decide +kernel, by decide +kernel⟩, by decide +kernel, cwmCh_bestSetAt, by decide +kernel, by decide⟩
theorem cwmOr_startIn : ma_CW mOr_startIn := Or.inl ⟨rfl, ma_in (by decide +kernel) rfl⟩
theorem hvmOr_startIn : Cond.instanceMethod mOr_startIn.1 ∈ maT ∧ (∃ q, maCl[2]? = some q ∧ Cond.selects q.1 mOr_startIn.1 mOr_startIn.1 ∈ maT) := ⟨ma_in (by decide +kernel) rfl, _, rfl, ma_in (by decide +kernel) rfl⟩
theorem vwCh_51 : ma_VW "DockBook$DoorChoice" 51 mOr_startIn 2 2 := ⟨ma_in (by decide +kernel) rfl, hvmOr_startIn.1, hvmOr_startIn.2, ⟨by decide +kernel, by decide +kernel⟩, by decide +kernel, cwmOr_startIn, by decide +kernel, by decide⟩
theorem vwCh_54 : ma_VW "DockBook$DoorChoice" 54 mTr_setPlan 3 2 := ⟨ma_in (by decide +kernel) rfl, hvmTr_setPlan.1, hvmTr_setPlan.2, ⟨by decide +kernel, by decide +kernel⟩, by decide +kernel, cwmTr_setPlan, by decide +kernel, by decide⟩
theorem flCh_28 : ma_FL "DockBook$DoorChoice" 1 4 28 := ⟨RCh, TCh, rfl, by decide, iTCh, ma_in (by decide +kernel) rfl, ftCh, nmCh⟩ -- DockBook$DoorChoice.bestCost
theorem fwCh_choose_28 : ma_FW mCh_choose 1 4 28 := ⟨RCh, TCh, rfl, by decide, iTCh, ma_in (by decide +kernel) rfl, ftCh, nmCh, Or.inl rfl⟩ -- DockBook$DoorChoice.bestCost
theorem flCh_21 : ma_FL "DockBook$DoorChoice" 1 2 21 := ⟨RCh, TCh, rfl, by decide, iTCh, ma_in (by decide +kernel) rfl, ftCh, nmCh⟩ -- DockBook$DoorChoice.chosen
theorem acCh_60 : Cond.methodLink "DockBook$DoorChoice" 60 arraycopyName ∈ maT ∧ Cond.native arraycopyName ∈ maT ∧ Cond.static arraycopyName ∈ maT ∧ Cond.initialized "java/lang/System" ∈ maT := ⟨ma_in (by decide +kernel) rfl, ma_in (by decide +kernel) rfl, ma_in (by decide +kernel) rfl, ma_in (by decide +kernel) rfl⟩
theorem cwmCh_chooseDoor : ma_CW mCh_chooseDoor := Or.inl ⟨rfl, ma_in (by decide +kernel) rfl⟩
theorem hvmCh_chooseDoor : Cond.instanceMethod mCh_chooseDoor.1 ∈ maT ∧ (∃ q, maCl[1]? = some q ∧ Cond.selects q.1 mCh_chooseDoor.1 mCh_chooseDoor.1 ∈ maT) := ⟨ma_in (by decide +kernel) rfl, _, rfl, ma_in (by decide +kernel) rfl⟩
theorem vwCh_66 : ma_VW "DockBook$DoorChoice" 66 mCh_chooseDoor 1 5 := ⟨ma_in (by decide +kernel) rfl, hvmCh_chooseDoor.1, hvmCh_chooseDoor.2, ⟨by decide +kernel, by decide +kernel⟩, by decide +kernel, cwmCh_chooseDoor, by decide +kernel, by decide⟩
theorem cwmCh_chooseNothing : ma_CW mCh_chooseNothing := Or.inl ⟨rfl, ma_in (by decide +kernel) rfl⟩
theorem hvmCh_chooseNothing : Cond.instanceMethod mCh_chooseNothing.1 ∈ maT ∧ (∃ q, maCl[1]? = some q ∧ Cond.selects q.1 mCh_chooseNothing.1 mCh_chooseNothing.1 ∈ maT) := ⟨ma_in (by decide +kernel) rfl, _, rfl, ma_in (by decide +kernel) rfl⟩
theorem vwCh_70 : ma_VW "DockBook$DoorChoice" 70 mCh_chooseNothing 1 4 := ⟨ma_in (by decide +kernel) rfl, hvmCh_chooseNothing.1, hvmCh_chooseNothing.2, ⟨by decide +kernel, by decide +kernel⟩, by decide +kernel, cwmCh_chooseNothing, by decide +kernel, by decide⟩
theorem flCh_73 : ma_FL "DockBook$DoorChoice" 2 0 73 := ⟨ROr, TOr, rfl, by decide, iTOr, ma_in (by decide +kernel) rfl, ftOr, nmOr⟩ -- DockBook$DoorOrders.costs
theorem obOr_3 : Cond.methodLink "DockBook$DoorOrders" 3 objectInit ∈ maT ∧ Cond.instanceMethod objectInit ∈ maT ∧ Cond.code objectInit ⟨#[0xb1]⟩ 1 none ∈ maT := ⟨ma_in (by decide +kernel) rfl, ma_in (by decide +kernel) rfl, ma_in (by decide +kernel) rfl⟩
theorem fwOr_init_9 : ma_FW mOr_init 2 0 9 := ⟨ROr, TOr, rfl, by decide, iTOr, ma_in (by decide +kernel) rfl, ftOr, nmOr, Or.inr ⟨rfl, rfl, rfl⟩⟩ -- DockBook$DoorOrders.costs
theorem fwOr_init_15 : ma_FW mOr_init 2 1 15 := ⟨ROr, TOr, rfl, by decide, iTOr, ma_in (by decide +kernel) rfl, ftOr, nmOr, Or.inr ⟨rfl, rfl, rfl⟩⟩ -- DockBook$DoorOrders.bestStarts
theorem fwOr_init_18 : ma_FW mOr_init 2 2 18 := ⟨ROr, TOr, rfl, by decide, iTOr, ma_in (by decide +kernel) rfl, ftOr, nmOr, Or.inr ⟨rfl, rfl, rfl⟩⟩ -- DockBook$DoorOrders.starts
theorem flOr_9 : ma_FL "DockBook$DoorOrders" 2 0 9 := ⟨ROr, TOr, rfl, by decide, iTOr, ma_in (by decide +kernel) rfl, ftOr, nmOr⟩ -- DockBook$DoorOrders.costs
theorem cwmOr_extend : ma_CW mOr_extend := Or.inl ⟨rfl, ma_in (by decide +kernel) rfl⟩
theorem hvmOr_extend : Cond.instanceMethod mOr_extend.1 ∈ maT ∧ (∃ q, maCl[2]? = some q ∧ Cond.selects q.1 mOr_extend.1 mOr_extend.1 ∈ maT) := ⟨ma_in (by decide +kernel) rfl, _, rfl, ma_in (by decide +kernel) rfl⟩
theorem vwOr_28 : ma_VW "DockBook$DoorOrders" 28 mOr_extend 2 6 := ⟨ma_in (by decide +kernel) rfl, hvmOr_extend.1, hvmOr_extend.2, ⟨by decide +kernel, by decide +kernel⟩, by decide +kernel, cwmOr_extend, by decide +kernel, by decide⟩
theorem flOr_15 : ma_FL "DockBook$DoorOrders" 2 1 15 := ⟨ROr, TOr, rfl, by decide, iTOr, ma_in (by decide +kernel) rfl, ftOr, nmOr⟩ -- DockBook$DoorOrders.bestStarts
theorem cwmOr_keepIfBetter : ma_CW mOr_keepIfBetter := Or.inl ⟨rfl, ma_in (by decide +kernel) rfl⟩
theorem hvmOr_keepIfBetter : Cond.instanceMethod mOr_keepIfBetter.1 ∈ maT ∧ (∃ q, maCl[2]? = some q ∧ Cond.selects q.1 mOr_keepIfBetter.1 mOr_keepIfBetter.1 ∈ maT) := ⟨ma_in (by decide +kernel) rfl, _, rfl, ma_in (by decide +kernel) rfl⟩
theorem vwOr_32 : ma_VW "DockBook$DoorOrders" 32 mOr_keepIfBetter 2 3 := ⟨ma_in (by decide +kernel) rfl, hvmOr_keepIfBetter.1, hvmOr_keepIfBetter.2, ⟨by decide +kernel, by decide +kernel⟩, by decide +kernel, cwmOr_keepIfBetter, by decide +kernel, by decide⟩
theorem cwmOr_add : ma_CW mOr_add := Or.inl ⟨rfl, ma_in (by decide +kernel) rfl⟩
theorem hvmOr_add : Cond.instanceMethod mOr_add.1 ∈ maT ∧ (∃ q, maCl[2]? = some q ∧ Cond.selects q.1 mOr_add.1 mOr_add.1 ∈ maT) := ⟨ma_in (by decide +kernel) rfl, _, rfl, ma_in (by decide +kernel) rfl⟩
theorem vwOr_36 : ma_VW "DockBook$DoorOrders" 36 mOr_add 2 7 := ⟨ma_in (by decide +kernel) rfl, hvmOr_add.1, hvmOr_add.2, ⟨by decide +kernel, by decide +kernel⟩, by decide +kernel, cwmOr_add, by decide +kernel, by decide⟩
theorem vwOr_40 : ma_VW "DockBook$DoorOrders" 40 mDo_startOf 0 2 := ⟨ma_in (by decide +kernel) rfl, hvmDo_startOf.1, hvmDo_startOf.2, ⟨by decide +kernel, by decide +kernel⟩, by decide +kernel, cwmDo_startOf, by decide +kernel, by decide⟩
theorem flOr_18 : ma_FL "DockBook$DoorOrders" 2 2 18 := ⟨ROr, TOr, rfl, by decide, iTOr, ma_in (by decide +kernel) rfl, ftOr, nmOr⟩ -- DockBook$DoorOrders.starts
theorem flOr_46 : ma_FL "DockBook$DoorOrders" 3 3 46 := ⟨RTr, TTr, rfl, by decide, iTTr, ma_in (by decide +kernel) rfl, ftTr, nmTr⟩ -- DockBook$Truck.need
theorem vwOr_52 : ma_VW "DockBook$DoorOrders" 52 mTr_costAt 3 1 := ⟨ma_in (by decide +kernel) rfl, hvmTr_costAt.1, hvmTr_costAt.2, ⟨by decide +kernel, by decide +kernel⟩, by decide +kernel, cwmTr_costAt, by decide +kernel, by decide⟩
theorem cwmOr_startsComeFirst : ma_CW mOr_startsComeFirst := Or.inl ⟨rfl, ma_in (by decide +kernel) rfl⟩
theorem hvmOr_startsComeFirst : Cond.instanceMethod mOr_startsComeFirst.1 ∈ maT ∧ (∃ q, maCl[2]? = some q ∧ Cond.selects q.1 mOr_startsComeFirst.1 mOr_startsComeFirst.1 ∈ maT) := ⟨ma_in (by decide +kernel) rfl, _, rfl, ma_in (by decide +kernel) rfl⟩
theorem vwOr_56 : ma_VW "DockBook$DoorOrders" 56 mOr_startsComeFirst 2 2 := ⟨ma_in (by decide +kernel) rfl, hvmOr_startsComeFirst.1, hvmOr_startsComeFirst.2, ⟨by decide +kernel, by decide +kernel⟩, by decide +kernel, cwmOr_startsComeFirst, by decide +kernel, by decide⟩
theorem obTr_3 : Cond.methodLink "DockBook$Truck" 3 objectInit ∈ maT ∧ Cond.instanceMethod objectInit ∈ maT ∧ Cond.code objectInit ⟨#[0xb1]⟩ 1 none ∈ maT := ⟨ma_in (by decide +kernel) rfl, ma_in (by decide +kernel) rfl, ma_in (by decide +kernel) rfl⟩
theorem fwTr_init_9 : ma_FW mTr_init 3 1 9 := ⟨RTr, TTr, rfl, by decide, iTTr, ma_in (by decide +kernel) rfl, ftTr, nmTr, Or.inl rfl⟩ -- DockBook$Truck.kind
theorem fwTr_init_15 : ma_FW mTr_init 3 2 15 := ⟨RTr, TTr, rfl, by decide, iTTr, ma_in (by decide +kernel) rfl, ftTr, nmTr, Or.inl rfl⟩ -- DockBook$Truck.arrival
theorem fwTr_init_18 : ma_FW mTr_init 3 3 18 := ⟨RTr, TTr, rfl, by decide, iTTr, ma_in (by decide +kernel) rfl, ftTr, nmTr, Or.inl rfl⟩ -- DockBook$Truck.need
theorem fwTr_init_21 : ma_FW mTr_init 3 4 21 := ⟨RTr, TTr, rfl, by decide, iTTr, ma_in (by decide +kernel) rfl, ftTr, nmTr, Or.inl rfl⟩ -- DockBook$Truck.rank
theorem fwTr_init_24 : ma_FW mTr_init 3 5 24 := ⟨RTr, TTr, rfl, by decide, iTTr, ma_in (by decide +kernel) rfl, ftTr, nmTr, Or.inl rfl⟩ -- DockBook$Truck.state
theorem fwTr_init_27 : ma_FW mTr_init 3 6 27 := ⟨RTr, TTr, rfl, by decide, iTTr, ma_in (by decide +kernel) rfl, ftTr, nmTr, Or.inl rfl⟩ -- DockBook$Truck.door
theorem fwTr_init_30 : ma_FW mTr_init 3 7 30 := ⟨RTr, TTr, rfl, by decide, iTTr, ma_in (by decide +kernel) rfl, ftTr, nmTr, Or.inl rfl⟩ -- DockBook$Truck.start
theorem fwTr_init_33 : ma_FW mTr_init 3 8 33 := ⟨RTr, TTr, rfl, by decide, iTTr, ma_in (by decide +kernel) rfl, ftTr, nmTr, Or.inl rfl⟩ -- DockBook$Truck.doorBefore
theorem fwTr_init_36 : ma_FW mTr_init 3 9 36 := ⟨RTr, TTr, rfl, by decide, iTTr, ma_in (by decide +kernel) rfl, ftTr, nmTr, Or.inl rfl⟩ -- DockBook$Truck.startBefore
theorem fwTr_init_39 : ma_FW mTr_init 3 10 39 := ⟨RTr, TTr, rfl, by decide, iTTr, ma_in (by decide +kernel) rfl, ftTr, nmTr, Or.inl rfl⟩ -- DockBook$Truck.sealTold
theorem fwTr_init_42 : ma_FW mTr_init 3 11 42 := ⟨RTr, TTr, rfl, by decide, iTTr, ma_in (by decide +kernel) rfl, ftTr, nmTr, Or.inl rfl⟩ -- DockBook$Truck.sealIsSure
theorem fwTr_init_46 : ma_FW mTr_init 3 12 46 := ⟨RTr, TTr, rfl, by decide, iTTr, ma_in (by decide +kernel) rfl, ftTr, nmTr, Or.inl rfl⟩ -- DockBook$Truck.loadIsRight
theorem fwTr_init_49 : ma_FW mTr_init 3 13 49 := ⟨RTr, TTr, rfl, by decide, iTTr, ma_in (by decide +kernel) rfl, ftTr, nmTr, Or.inl rfl⟩ -- DockBook$Truck.departure
theorem fwTr_init_52 : ma_FW mTr_init 3 0 52 := ⟨RTr, TTr, rfl, by decide, iTTr, ma_in (by decide +kernel) rfl, ftTr, nmTr, Or.inr ⟨rfl, rfl, rfl⟩⟩ -- DockBook$Truck.number
theorem fwTr_setPlan_27 : ma_FW mTr_setPlan 3 6 27 := ⟨RTr, TTr, rfl, by decide, iTTr, ma_in (by decide +kernel) rfl, ftTr, nmTr, Or.inl rfl⟩ -- DockBook$Truck.door
theorem fwTr_setPlan_30 : ma_FW mTr_setPlan 3 7 30 := ⟨RTr, TTr, rfl, by decide, iTTr, ma_in (by decide +kernel) rfl, ftTr, nmTr, Or.inl rfl⟩ -- DockBook$Truck.start
theorem flTr_27 : ma_FL "DockBook$Truck" 3 6 27 := ⟨RTr, TTr, rfl, by decide, iTTr, ma_in (by decide +kernel) rfl, ftTr, nmTr⟩ -- DockBook$Truck.door
theorem fwTr_rememberPlan_33 : ma_FW mTr_rememberPlan 3 8 33 := ⟨RTr, TTr, rfl, by decide, iTTr, ma_in (by decide +kernel) rfl, ftTr, nmTr, Or.inl rfl⟩ -- DockBook$Truck.doorBefore
theorem flTr_30 : ma_FL "DockBook$Truck" 3 7 30 := ⟨RTr, TTr, rfl, by decide, iTTr, ma_in (by decide +kernel) rfl, ftTr, nmTr⟩ -- DockBook$Truck.start
theorem fwTr_rememberPlan_36 : ma_FW mTr_rememberPlan 3 9 36 := ⟨RTr, TTr, rfl, by decide, iTTr, ma_in (by decide +kernel) rfl, ftTr, nmTr, Or.inl rfl⟩ -- DockBook$Truck.startBefore
theorem flTr_33 : ma_FL "DockBook$Truck" 3 8 33 := ⟨RTr, TTr, rfl, by decide, iTTr, ma_in (by decide +kernel) rfl, ftTr, nmTr⟩ -- DockBook$Truck.doorBefore
theorem flTr_36 : ma_FL "DockBook$Truck" 3 9 36 := ⟨RTr, TTr, rfl, by decide, iTTr, ma_in (by decide +kernel) rfl, ftTr, nmTr⟩ -- DockBook$Truck.startBefore
theorem flTr_24 : ma_FL "DockBook$Truck" 3 5 24 := ⟨RTr, TTr, rfl, by decide, iTTr, ma_in (by decide +kernel) rfl, ftTr, nmTr⟩ -- DockBook$Truck.state
theorem flTr_15 : ma_FL "DockBook$Truck" 3 2 15 := ⟨RTr, TTr, rfl, by decide, iTTr, ma_in (by decide +kernel) rfl, ftTr, nmTr⟩ -- DockBook$Truck.arrival
theorem flTr_21 : ma_FL "DockBook$Truck" 3 4 21 := ⟨RTr, TTr, rfl, by decide, iTTr, ma_in (by decide +kernel) rfl, ftTr, nmTr⟩ -- DockBook$Truck.rank
theorem flTr_52 : ma_FL "DockBook$Truck" 3 0 52 := ⟨RTr, TTr, rfl, by decide, iTTr, ma_in (by decide +kernel) rfl, ftTr, nmTr⟩ -- DockBook$Truck.number
theorem flTr_39 : ma_FL "DockBook$Truck" 3 10 39 := ⟨RTr, TTr, rfl, by decide, iTTr, ma_in (by decide +kernel) rfl, ftTr, nmTr⟩ -- DockBook$Truck.sealTold
theorem fwTr_tellSeal_39 : ma_FW mTr_tellSeal 3 10 39 := ⟨RTr, TTr, rfl, by decide, iTTr, ma_in (by decide +kernel) rfl, ftTr, nmTr, Or.inl rfl⟩ -- DockBook$Truck.sealTold
theorem fwTr_tellSeal_42 : ma_FW mTr_tellSeal 3 11 42 := ⟨RTr, TTr, rfl, by decide, iTTr, ma_in (by decide +kernel) rfl, ftTr, nmTr, Or.inl rfl⟩ -- DockBook$Truck.sealIsSure
theorem flTr_42 : ma_FL "DockBook$Truck" 3 11 42 := ⟨RTr, TTr, rfl, by decide, iTTr, ma_in (by decide +kernel) rfl, ftTr, nmTr⟩ -- DockBook$Truck.sealIsSure
end
section
theorem oa_2_60 : ∃ (ix : Nat) (by6 : ByteArray), (decode by6 0 = .ok (.aload_n 0, 1) ∧ decode by6 1 = .ok (.aload_n 1, 1) ∧ decode by6 2 = .ok (.invokespecial ix, 3) ∧ decode by6 5 = .ok (.return_, 1)) ∧ ∀ a ∈ ma_CA "DockBook" 60 (ma_en 2) ix by6, a ∈ maT ∨ a ∈ maH := ⟨7, prog_16_method_2_code, ⟨by decide +kernel, by decide +kernel, by decide +kernel, by decide +kernel⟩, fun a ha => ((by decide +kernel : ∀ a ∈ ma_CA "DockBook" 60 (ma_en 2) 7 prog_16_method_2_code, (a ∈ lw_tbl ∧ ma_w a = true) ∨ a ∈ maH) a ha).imp (fun z => ma_in z.1 z.2) id⟩
theorem twBk_door_34 : ma_TW "DockBook" 2 56 58 60 "no room for another door" := ⟨ma_in (by decide +kernel) rfl, ma_in (by decide +kernel) rfl, ma_in (by decide +kernel) rfl, ma_in (by decide +kernel) rfl, by decide +kernel, oa_2_60⟩
theorem twBk_truck_40 : ma_TW "DockBook" 2 56 72 60 "no room for another truck" := ⟨ma_in (by decide +kernel) rfl, ma_in (by decide +kernel) rfl, ma_in (by decide +kernel) rfl, ma_in (by decide +kernel) rfl, by decide +kernel, oa_2_60⟩
theorem oa_4_126 : ∃ (ix : Nat) (by6 : ByteArray), (decode by6 0 = .ok (.aload_n 0, 1) ∧ decode by6 1 = .ok (.aload_n 1, 1) ∧ decode by6 2 = .ok (.invokespecial ix, 3) ∧ decode by6 5 = .ok (.return_, 1)) ∧ ∀ a ∈ ma_CA "DockBook" 126 (ma_en 4) ix by6, a ∈ maT ∨ a ∈ maH := ⟨7, prog_10_method_2_code, ⟨by decide +kernel, by decide +kernel, by decide +kernel, by decide +kernel⟩, fun a ha => ((by decide +kernel : ∀ a ∈ ma_CA "DockBook" 126 (ma_en 4) 7 prog_10_method_2_code, (a ∈ lw_tbl ∧ ma_w a = true) ∨ a ∈ maH) a ha).imp (fun z => ma_in z.1 z.2) id⟩
theorem twBk_call_14 : ma_TW "DockBook" 4 122 124 126 "the truck can't go to a door now" := ⟨ma_in (by decide +kernel) rfl, ma_in (by decide +kernel) rfl, ma_in (by decide +kernel) rfl, ma_in (by decide +kernel) rfl, by decide +kernel, oa_4_126⟩
theorem twBk_seal_29 : ma_TW "DockBook" 4 122 143 126 "the truck is gone or cancelled" := ⟨ma_in (by decide +kernel) rfl, ma_in (by decide +kernel) rfl, ma_in (by decide +kernel) rfl, ma_in (by decide +kernel) rfl, by decide +kernel, oa_4_126⟩
theorem twBk_out_14 : ma_TW "DockBook" 4 122 172 126 "the door is so already" := ⟨ma_in (by decide +kernel) rfl, ma_in (by decide +kernel) rfl, ma_in (by decide +kernel) rfl, ma_in (by decide +kernel) rfl, by decide +kernel, oa_4_126⟩
theorem oa_3_185 : ∃ (ix : Nat) (by6 : ByteArray), (decode by6 0 = .ok (.aload_n 0, 1) ∧ decode by6 1 = .ok (.aload_n 1, 1) ∧ decode by6 2 = .ok (.invokespecial ix, 3) ∧ decode by6 5 = .ok (.return_, 1)) ∧ ∀ a ∈ ma_CA "DockBook" 185 (ma_en 3) ix by6, a ∈ maT ∨ a ∈ maH := ⟨13, prog_18_method_4_code, ⟨by decide +kernel, by decide +kernel, by decide +kernel, by decide +kernel⟩, fun a ha => ((by decide +kernel : ∀ a ∈ ma_CA "DockBook" 185 (ma_en 3) 13 prog_18_method_4_code, (a ∈ lw_tbl ∧ ma_w a = true) ∨ a ∈ maH) a ha).imp (fun z => ma_in z.1 z.2) id⟩
theorem twBk_order_51 : ma_TW "DockBook" 3 181 183 185 "the door has not so many waiting trucks" := ⟨ma_in (by decide +kernel) rfl, ma_in (by decide +kernel) rfl, ma_in (by decide +kernel) rfl, ma_in (by decide +kernel) rfl, by decide +kernel, oa_3_185⟩
theorem oa_1_190 : ∃ (ix : Nat) (by6 : ByteArray), (decode by6 0 = .ok (.aload_n 0, 1) ∧ decode by6 1 = .ok (.aload_n 1, 1) ∧ decode by6 2 = .ok (.invokespecial ix, 3) ∧ decode by6 5 = .ok (.return_, 1)) ∧ ∀ a ∈ ma_CA "DockBook" 190 (ma_en 1) ix by6, a ∈ maT ∨ a ∈ maH := ⟨7, prog_9_method_2_code, ⟨by decide +kernel, by decide +kernel, by decide +kernel, by decide +kernel⟩, fun a ha => ((by decide +kernel : ∀ a ∈ ma_CA "DockBook" 190 (ma_en 1) 7 prog_9_method_2_code, (a ∈ lw_tbl ∧ ma_w a = true) ∨ a ∈ maH) a ha).imp (fun z => ma_in z.1 z.2) id⟩
theorem twBk_told_109 : ma_TW "DockBook" 1 186 188 190 "a truck tells 0 to 7" := ⟨ma_in (by decide +kernel) rfl, ma_in (by decide +kernel) rfl, ma_in (by decide +kernel) rfl, ma_in (by decide +kernel) rfl, by decide +kernel, oa_1_190⟩
theorem twBk_known_74 : ma_TW "DockBook" 1 186 194 190 "of a door 0 to 4 are known" := ⟨ma_in (by decide +kernel) rfl, ma_in (by decide +kernel) rfl, ma_in (by decide +kernel) rfl, ma_in (by decide +kernel) rfl, by decide +kernel, oa_1_190⟩
theorem twBk_requireRange_10 : ma_TW "DockBook" 1 186 199 190 "a number is outside its range" := ⟨ma_in (by decide +kernel) rfl, ma_in (by decide +kernel) rfl, ma_in (by decide +kernel) rfl, ma_in (by decide +kernel) rfl, by decide +kernel, oa_1_190⟩
theorem twBk_requireState_8 : ma_TW "DockBook" 4 122 201 126 "the truck is in another state" := ⟨ma_in (by decide +kernel) rfl, ma_in (by decide +kernel) rfl, ma_in (by decide +kernel) rfl, ma_in (by decide +kernel) rfl, by decide +kernel, oa_4_126⟩
theorem twBk_truckNumbered_12 : ma_TW "DockBook" 3 181 203 185 "there is no such truck" := ⟨ma_in (by decide +kernel) rfl, ma_in (by decide +kernel) rfl, ma_in (by decide +kernel) rfl, ma_in (by decide +kernel) rfl, by decide +kernel, oa_3_185⟩
theorem twBk_doorNumbered_12 : ma_TW "DockBook" 3 181 205 185 "there is no such door" := ⟨ma_in (by decide +kernel) rfl, ma_in (by decide +kernel) rfl, ma_in (by decide +kernel) rfl, ma_in (by decide +kernel) rfl, by decide +kernel, oa_3_185⟩
end
section
/-! LEAVES: what doors and trucks answer of themselves -/
def rV (v : Int32) (h : AH) : GO → AH → Prop := fun g h' => g = .inl (some (vI v)) ∧ h' = h
def rO (k i : Nat) (h : AH) : GO → AH → Prop := fun g h' => g = .inl (some (vO k i)) ∧ h' = h
def rN (h : AH) : GO → AH → Prop := fun g h' => g = .inl none ∧ h' = h
def rT (k : Nat) (h : AH) : GO → AH → Prop := fun g h' => g = .inr k ∧ h' = h
def mx (a b : Int32) : Int32 := if a < b then b else a
def mn (a b : Int32) : Int32 := if b < a then b else a
def bz (p : Prop) [Decidable p] : Int32 := if p then 1 else 0
def sp_ready (m : Nat → Nat → Nat → Int32) (i : Nat) (now : Int32) : Int32 := mx (m 0 i 1) (mx (m 0 i 5) now)
def sp_start (m : Nat → Nat → Nat → Int32) (i j : Nat) (ready : Int32) : Int32 := if m 0 i 3 ≠ 0 then -1 else if m 0 i 0 &&& (1 <<< (m 3 j 1 &&& 31)) = 0 then -1 else if mx (m 3 j 2) ready + m 3 j 3 ≤ m 0 i 2 then mx (m 3 j 2) ready else -1
def sp_moved (m : Nat → Nat → Nat → Int32) (j : Nat) : Int32 := if m 3 j 6 = m 3 j 8 then (if m 3 j 7 = m 3 j 9 then 0 else 1) else 1
def sp_planned (m : Nat → Nat → Nat → Int32) (j : Nat) (door : Int32) : Int32 := if m 3 j 5 = 0 then (if m 3 j 6 = door then 1 else 0) else 0
def sp_cost (m : Nat → Nat → Nat → Int32) (j : Nat) (start : Int32) : Int32 := if start = -1 then 5000 else start - m 3 j 2
def sp_before (m : Nat → Nat → Nat → Int32) (i j : Nat) : Int32 := if m 3 i 4 = m 3 j 4 then (if m 3 i 2 = m 3 j 2 then (if m 3 i 0 < m 3 j 0 then 1 else 0) else (if m 3 i 2 < m 3 j 2 then 1 else 0)) else (if m 3 i 4 < m 3 j 4 then 1 else 0)
set_option maxHeartbeats 1000000 in
theorem g_Do_readyAt {sc : Nat × (Nat → Int32)} {d bc bs : Nat} {h : AH} (i : Nat) (now : Int32) : Go sc true true (d + 1) bc bs mDo_readyAt 0 [vO 0 i, vI now] [] h (rV (sp_ready h.1 i now) h) := by
  refine Go.aload_n dDo_readyAt_0 rfl (Nat.ne_of_beq_eq_false rfl) ?_
  refine Go.getI dDo_readyAt_1 flDo_15 (Nat.le_of_ble_eq_true rfl) rfl ?_
  refine Go.aload_n dDo_readyAt_4 rfl (Nat.ne_of_beq_eq_false rfl) ?_
  refine Go.getI dDo_readyAt_5 flDo_28 (Nat.le_of_ble_eq_true rfl) rfl ?_
  refine Go.iload_n dDo_readyAt_8 rfl ?_
  refine Go.mmax dDo_readyAt_9 mtDo_37 (Nat.le_of_ble_eq_true rfl) (by omega) ?_
  refine Go.mmax dDo_readyAt_12 mtDo_37 (Nat.le_of_ble_eq_true rfl) (by omega) ?_
  refine Go.iret dDo_readyAt_15 rfl rfl (by decide) ?_
  exact ⟨rfl, rfl⟩
set_option maxHeartbeats 1000000 in
theorem g_Do_startOf {sc : Nat × (Nat → Int32)} {d bc bs : Nat} {h : AH} (i j : Nat) (ready : Int32) : Go sc true true (d + 1) bc bs mDo_startOf 0 [vO 0 i, vO 3 j, vI ready, vU] [] h (rV (sp_start h.1 i j ready) h) := by
  refine Go.aload_n dDo_startOf_0 rfl (Nat.ne_of_beq_eq_false rfl) ?_
  refine Go.getI dDo_startOf_1 flDo_21 (Nat.le_of_ble_eq_true rfl) rfl ?_
  refine Go.if_ne (tgt := 21) dDo_startOf_4 (by decide) (fun q1 => ?_) (fun q1 => ?_)
  · refine Go.iconst (v := (-1)) dDo_startOf_21 (by decide) ?_
    refine Go.iret dDo_startOf_22 rfl rfl (by decide) ?_
    refine ⟨?_, rfl⟩
    unfold sp_start mx
    first | (simp_all; done) | (simp_all; intro h9; exact absurd h9 (Int32.not_le.mpr q3))
  · refine Go.aload_n dDo_startOf_7 rfl (Nat.ne_of_beq_eq_false rfl) ?_
    refine Go.getI dDo_startOf_8 flDo_9 (Nat.le_of_ble_eq_true rfl) rfl ?_
    refine Go.iconst (v := 1) dDo_startOf_11 (by decide) ?_
    refine Go.aload_n dDo_startOf_12 rfl (Nat.ne_of_beq_eq_false rfl) ?_
    refine Go.getI dDo_startOf_13 flDo_43 (Nat.le_of_ble_eq_true rfl) rfl ?_
    refine Go.ishl dDo_startOf_16 ?_
    refine Go.iand dDo_startOf_17 ?_
    refine Go.if_ne (tgt := 23) dDo_startOf_18 (by decide) (fun q2 => ?_) (fun q2 => ?_)
    · refine Go.aload_n dDo_startOf_23 rfl (Nat.ne_of_beq_eq_false rfl) ?_
      refine Go.getI dDo_startOf_24 flDo_48 (Nat.le_of_ble_eq_true rfl) rfl ?_
      refine Go.iload_n dDo_startOf_27 rfl ?_
      refine Go.mmax dDo_startOf_28 mtDo_37 (Nat.le_of_ble_eq_true rfl) (by omega) ?_
      refine Go.istore_n dDo_startOf_31 (by decide) rfl ?_
      refine Go.iload_n dDo_startOf_32 rfl ?_
      refine Go.aload_n dDo_startOf_33 rfl (Nat.ne_of_beq_eq_false rfl) ?_
      refine Go.getI dDo_startOf_34 flDo_51 (Nat.le_of_ble_eq_true rfl) rfl ?_
      refine Go.iadd dDo_startOf_37 ?_
      refine Go.aload_n dDo_startOf_38 rfl (Nat.ne_of_beq_eq_false rfl) ?_
      refine Go.getI dDo_startOf_39 flDo_18 (Nat.le_of_ble_eq_true rfl) rfl ?_
      refine Go.icmp_gt (tgt := 49) dDo_startOf_42 (by decide) (fun q3 => ?_) (fun q3 => ?_)
      · refine Go.iconst (v := (-1)) dDo_startOf_49 (by decide) ?_
        refine Go.iret dDo_startOf_50 rfl rfl (by decide) ?_
        refine ⟨?_, rfl⟩
        unfold sp_start mx
        first | (simp_all; done) | (simp_all; intro h9; exact absurd h9 (Int32.not_le.mpr q3))
      · refine Go.iload_n dDo_startOf_45 rfl ?_
        refine Go.goto (tgt := 50) dDo_startOf_46 (by decide) ?_
        refine Go.iret dDo_startOf_50 rfl rfl (by decide) ?_
        refine ⟨?_, rfl⟩
        unfold sp_start mx
        first | (simp_all; done) | (simp_all; intro h9; exact absurd h9 (Int32.not_le.mpr q3))
    · refine Go.iconst (v := (-1)) dDo_startOf_21 (by decide) ?_
      refine Go.iret dDo_startOf_22 rfl rfl (by decide) ?_
      refine ⟨?_, rfl⟩
      unfold sp_start mx
      first | (simp_all; done) | (simp_all; intro h9; exact absurd h9 (Int32.not_le.mpr q3))
set_option maxHeartbeats 1000000 in
theorem g_Tr_hasMoved {sc : Nat × (Nat → Int32)} {d bc bs : Nat} {h : AH} (j : Nat) : Go sc true true d bc bs mTr_hasMoved 0 [vO 3 j] [] h (rV (sp_moved h.1 j) h) := by
  refine Go.aload_n dTr_hasMoved_0 rfl (Nat.ne_of_beq_eq_false rfl) ?_
  refine Go.getI dTr_hasMoved_1 flTr_27 (Nat.le_of_ble_eq_true rfl) rfl ?_
  refine Go.aload_n dTr_hasMoved_4 rfl (Nat.ne_of_beq_eq_false rfl) ?_
  refine Go.getI dTr_hasMoved_5 flTr_33 (Nat.le_of_ble_eq_true rfl) rfl ?_
  refine Go.icmp_ne (tgt := 22) dTr_hasMoved_8 (by decide) (fun q1 => ?_) (fun q1 => ?_)
  · refine Go.iconst (v := 1) dTr_hasMoved_22 (by decide) ?_
    refine Go.goto (tgt := 27) dTr_hasMoved_23 (by decide) ?_
    refine Go.iret dTr_hasMoved_27 rfl rfl (by decide) ?_
    refine ⟨?_, rfl⟩
    unfold sp_moved
    simp_all
  · refine Go.aload_n dTr_hasMoved_11 rfl (Nat.ne_of_beq_eq_false rfl) ?_
    refine Go.getI dTr_hasMoved_12 flTr_30 (Nat.le_of_ble_eq_true rfl) rfl ?_
    refine Go.aload_n dTr_hasMoved_15 rfl (Nat.ne_of_beq_eq_false rfl) ?_
    refine Go.getI dTr_hasMoved_16 flTr_36 (Nat.le_of_ble_eq_true rfl) rfl ?_
    refine Go.icmp_eq (tgt := 26) dTr_hasMoved_19 (by decide) (fun q2 => ?_) (fun q2 => ?_)
    · refine Go.iconst (v := 0) dTr_hasMoved_26 (by decide) ?_
      refine Go.iret dTr_hasMoved_27 rfl rfl (by decide) ?_
      refine ⟨?_, rfl⟩
      unfold sp_moved
      simp_all
    · refine Go.iconst (v := 1) dTr_hasMoved_22 (by decide) ?_
      refine Go.goto (tgt := 27) dTr_hasMoved_23 (by decide) ?_
      refine Go.iret dTr_hasMoved_27 rfl rfl (by decide) ?_
      refine ⟨?_, rfl⟩
      unfold sp_moved
      simp_all
set_option maxHeartbeats 1000000 in
theorem g_Tr_isPlannedFor {sc : Nat × (Nat → Int32)} {d bc bs : Nat} {h : AH} (j : Nat) (door : Int32) : Go sc true true d bc bs mTr_isPlannedFor 0 [vO 3 j, vI door] [] h (rV (sp_planned h.1 j door) h) := by
  refine Go.aload_n dTr_isPlannedFor_0 rfl (Nat.ne_of_beq_eq_false rfl) ?_
  refine Go.getI dTr_isPlannedFor_1 flTr_24 (Nat.le_of_ble_eq_true rfl) rfl ?_
  refine Go.if_ne (tgt := 19) dTr_isPlannedFor_4 (by decide) (fun q1 => ?_) (fun q1 => ?_)
  · refine Go.iconst (v := 0) dTr_isPlannedFor_19 (by decide) ?_
    refine Go.iret dTr_isPlannedFor_20 rfl rfl (by decide) ?_
    refine ⟨?_, rfl⟩
    unfold sp_planned
    simp_all
  · refine Go.aload_n dTr_isPlannedFor_7 rfl (Nat.ne_of_beq_eq_false rfl) ?_
    refine Go.getI dTr_isPlannedFor_8 flTr_27 (Nat.le_of_ble_eq_true rfl) rfl ?_
    refine Go.iload_n dTr_isPlannedFor_11 rfl ?_
    refine Go.icmp_ne (tgt := 19) dTr_isPlannedFor_12 (by decide) (fun q2 => ?_) (fun q2 => ?_)
    · refine Go.iconst (v := 0) dTr_isPlannedFor_19 (by decide) ?_
      refine Go.iret dTr_isPlannedFor_20 rfl rfl (by decide) ?_
      refine ⟨?_, rfl⟩
      unfold sp_planned
      simp_all
    · refine Go.iconst (v := 1) dTr_isPlannedFor_15 (by decide) ?_
      refine Go.goto (tgt := 20) dTr_isPlannedFor_16 (by decide) ?_
      refine Go.iret dTr_isPlannedFor_20 rfl rfl (by decide) ?_
      refine ⟨?_, rfl⟩
      unfold sp_planned
      simp_all
set_option maxHeartbeats 1000000 in
theorem g_Tr_costAt {sc : Nat × (Nat → Int32)} {d bc bs : Nat} {h : AH} (j : Nat) (start : Int32) : Go sc true true d bc bs mTr_costAt 0 [vO 3 j, vI start] [] h (rV (sp_cost h.1 j start) h) := by
  refine Go.iload_n dTr_costAt_0 rfl ?_
  refine Go.iconst (v := (-1)) dTr_costAt_1 (by decide) ?_
  refine Go.icmp_ne (tgt := 11) dTr_costAt_2 (by decide) (fun q1 => ?_) (fun q1 => ?_)
  · refine Go.iload_n dTr_costAt_11 rfl ?_
    refine Go.aload_n dTr_costAt_12 rfl (Nat.ne_of_beq_eq_false rfl) ?_
    refine Go.getI dTr_costAt_13 flTr_15 (Nat.le_of_ble_eq_true rfl) rfl ?_
    refine Go.isub dTr_costAt_16 ?_
    refine Go.iret dTr_costAt_17 rfl rfl (by decide) ?_
    refine ⟨?_, rfl⟩
    unfold sp_cost
    simp_all
  · refine Go.sipush (v := 5000) dTr_costAt_5 (by decide) ?_
    refine Go.goto (tgt := 17) dTr_costAt_8 (by decide) ?_
    refine Go.iret dTr_costAt_17 rfl rfl (by decide) ?_
    refine ⟨?_, rfl⟩
    unfold sp_cost
    simp_all
set_option maxHeartbeats 1000000 in
theorem g_Tr_goesBefore {sc : Nat × (Nat → Int32)} {d bc bs : Nat} {h : AH} (i j : Nat) : Go sc true true d bc bs mTr_goesBefore 0 [vO 3 i, vO 3 j] [] h (rV (sp_before h.1 i j) h) := by
  refine Go.aload_n dTr_goesBefore_0 rfl (Nat.ne_of_beq_eq_false rfl) ?_
  refine Go.getI dTr_goesBefore_1 flTr_21 (Nat.le_of_ble_eq_true rfl) rfl ?_
  refine Go.aload_n dTr_goesBefore_4 rfl (Nat.ne_of_beq_eq_false rfl) ?_
  refine Go.getI dTr_goesBefore_5 flTr_21 (Nat.le_of_ble_eq_true rfl) rfl ?_
  refine Go.icmp_eq (tgt := 28) dTr_goesBefore_8 (by decide) (fun q1 => ?_) (fun q1 => ?_)
  · refine Go.aload_n dTr_goesBefore_28 rfl (Nat.ne_of_beq_eq_false rfl) ?_
    refine Go.getI dTr_goesBefore_29 flTr_15 (Nat.le_of_ble_eq_true rfl) rfl ?_
    refine Go.aload_n dTr_goesBefore_32 rfl (Nat.ne_of_beq_eq_false rfl) ?_
    refine Go.getI dTr_goesBefore_33 flTr_15 (Nat.le_of_ble_eq_true rfl) rfl ?_
    refine Go.icmp_eq (tgt := 56) dTr_goesBefore_36 (by decide) (fun q2 => ?_) (fun q2 => ?_)
    · refine Go.aload_n dTr_goesBefore_56 rfl (Nat.ne_of_beq_eq_false rfl) ?_
      refine Go.getI dTr_goesBefore_57 flTr_52 (Nat.le_of_ble_eq_true rfl) rfl ?_
      refine Go.aload_n dTr_goesBefore_60 rfl (Nat.ne_of_beq_eq_false rfl) ?_
      refine Go.getI dTr_goesBefore_61 flTr_52 (Nat.le_of_ble_eq_true rfl) rfl ?_
      refine Go.icmp_ge (tgt := 71) dTr_goesBefore_64 (by decide) (fun q3 => ?_) (fun q3 => ?_)
      · refine Go.iconst (v := 0) dTr_goesBefore_71 (by decide) ?_
        refine Go.iret dTr_goesBefore_72 rfl rfl (by decide) ?_
        refine ⟨?_, rfl⟩
        unfold sp_before
        simp_all
      · refine Go.iconst (v := 1) dTr_goesBefore_67 (by decide) ?_
        refine Go.goto (tgt := 72) dTr_goesBefore_68 (by decide) ?_
        refine Go.iret dTr_goesBefore_72 rfl rfl (by decide) ?_
        refine ⟨?_, rfl⟩
        unfold sp_before
        simp_all
    · refine Go.aload_n dTr_goesBefore_39 rfl (Nat.ne_of_beq_eq_false rfl) ?_
      refine Go.getI dTr_goesBefore_40 flTr_15 (Nat.le_of_ble_eq_true rfl) rfl ?_
      refine Go.aload_n dTr_goesBefore_43 rfl (Nat.ne_of_beq_eq_false rfl) ?_
      refine Go.getI dTr_goesBefore_44 flTr_15 (Nat.le_of_ble_eq_true rfl) rfl ?_
      refine Go.icmp_ge (tgt := 54) dTr_goesBefore_47 (by decide) (fun q4 => ?_) (fun q4 => ?_)
      · refine Go.iconst (v := 0) dTr_goesBefore_54 (by decide) ?_
        refine Go.iret dTr_goesBefore_55 rfl rfl (by decide) ?_
        refine ⟨?_, rfl⟩
        unfold sp_before
        simp_all
      · refine Go.iconst (v := 1) dTr_goesBefore_50 (by decide) ?_
        refine Go.goto (tgt := 55) dTr_goesBefore_51 (by decide) ?_
        refine Go.iret dTr_goesBefore_55 rfl rfl (by decide) ?_
        refine ⟨?_, rfl⟩
        unfold sp_before
        simp_all
  · refine Go.aload_n dTr_goesBefore_11 rfl (Nat.ne_of_beq_eq_false rfl) ?_
    refine Go.getI dTr_goesBefore_12 flTr_21 (Nat.le_of_ble_eq_true rfl) rfl ?_
    refine Go.aload_n dTr_goesBefore_15 rfl (Nat.ne_of_beq_eq_false rfl) ?_
    refine Go.getI dTr_goesBefore_16 flTr_21 (Nat.le_of_ble_eq_true rfl) rfl ?_
    refine Go.icmp_ge (tgt := 26) dTr_goesBefore_19 (by decide) (fun q5 => ?_) (fun q5 => ?_)
    · refine Go.iconst (v := 0) dTr_goesBefore_26 (by decide) ?_
      refine Go.iret dTr_goesBefore_27 rfl rfl (by decide) ?_
      refine ⟨?_, rfl⟩
      unfold sp_before
      simp_all
    · refine Go.iconst (v := 1) dTr_goesBefore_22 (by decide) ?_
      refine Go.goto (tgt := 27) dTr_goesBefore_23 (by decide) ?_
      refine Go.iret dTr_goesBefore_27 rfl rfl (by decide) ?_
      refine ⟨?_, rfl⟩
      unfold sp_before
      simp_all
set_option maxHeartbeats 1000000 in
theorem g_Tr_setPlan {sc : Nat × (Nat → Int32)} {d bc bs : Nat} {h : AH} (j : Nat) (a b : Int32) : Go sc true false d bc bs mTr_setPlan 0 [vO 3 j, vI a, vI b] [] h (rN (ma_up (ma_up h.1 3 j 6 a) 3 j 7 b, h.2)) := by
  refine Go.aload_n dTr_setPlan_0 rfl (Nat.ne_of_beq_eq_false rfl) ?_
  refine Go.iload_n dTr_setPlan_1 rfl ?_
  refine Go.putI dTr_setPlan_2 fwTr_setPlan_27 (Nat.le_of_ble_eq_true rfl) rfl ⟨rfl, rfl⟩ ?_
  refine Go.aload_n dTr_setPlan_5 rfl (Nat.ne_of_beq_eq_false rfl) ?_
  refine Go.iload_n dTr_setPlan_6 rfl ?_
  refine Go.putI dTr_setPlan_7 fwTr_setPlan_30 (Nat.le_of_ble_eq_true rfl) rfl ⟨rfl, rfl⟩ ?_
  refine Go.vret dTr_setPlan_10 rfl (by decide) ?_
  exact ⟨rfl, rfl⟩
set_option maxHeartbeats 1000000 in
theorem g_Tr_rememberPlan {sc : Nat × (Nat → Int32)} {d bc bs : Nat} {h : AH} (j : Nat) : Go sc true false d bc bs mTr_rememberPlan 0 [vO 3 j] [] h (rN (ma_up (ma_up h.1 3 j 8 (h.1 3 j 6)) 3 j 9 (h.1 3 j 7), h.2)) := by
  refine Go.aload_n dTr_rememberPlan_0 rfl (Nat.ne_of_beq_eq_false rfl) ?_
  refine Go.aload_n dTr_rememberPlan_1 rfl (Nat.ne_of_beq_eq_false rfl) ?_
  refine Go.getI dTr_rememberPlan_2 flTr_27 (Nat.le_of_ble_eq_true rfl) rfl ?_
  refine Go.putI dTr_rememberPlan_5 fwTr_rememberPlan_33 (Nat.le_of_ble_eq_true rfl) rfl ⟨rfl, rfl⟩ ?_
  refine Go.aload_n dTr_rememberPlan_8 rfl (Nat.ne_of_beq_eq_false rfl) ?_
  refine Go.aload_n dTr_rememberPlan_9 rfl (Nat.ne_of_beq_eq_false rfl) ?_
  refine Go.getI dTr_rememberPlan_10 flTr_30 (Nat.le_of_ble_eq_true rfl) rfl ?_
  refine Go.putI dTr_rememberPlan_13 fwTr_rememberPlan_36 (Nat.le_of_ble_eq_true rfl) rfl ⟨rfl, rfl⟩ ?_
  refine Go.vret dTr_rememberPlan_16 rfl (by decide) ?_
  refine ⟨rfl, ?_⟩
  simp [ma_up]
end
section
/-! THE BOOK: its shape, and its small methods. Arrays: (110, 0) the doors, (113, 0) the trucks, (113, 1) the waiting ones; object (4, 0) is the book, (1, 0) the choice, (0, i) and (3, i) door and truck i -/
def SB (h : AH) : Prop := h.2.1 4 0 0 = some (110, 0) ∧ h.2.1 4 0 1 = some (113, 0) ∧ h.2.1 4 0 2 = some (113, 1) ∧ h.2.1 4 0 3 = some (1, 0) ∧ h.2.2.2.1 110 0 = 4 ∧ h.2.2.2.1 113 0 = 12 ∧ h.2.2.2.1 113 1 = 12 ∧ (∀ i, i < 4 → h.2.1 110 0 i = some (0, i)) ∧ ∀ i, i < 12 → h.2.1 113 0 i = some (3, i)
theorem SB.doors {h : AH} (s : SB h) : h.2.1 4 0 0 = some (110, 0) := s.1
theorem SB.trucks {h : AH} (s : SB h) : h.2.1 4 0 1 = some (113, 0) := s.2.1
theorem SB.ldoors {h : AH} (s : SB h) : h.2.2.2.1 110 0 = 4 := s.2.2.2.2.1
theorem SB.ltrucks {h : AH} (s : SB h) : h.2.2.2.1 113 0 = 12 := s.2.2.2.2.2.1
theorem SB.door {h : AH} (s : SB h) {i : Nat} (hi : i < 4) : h.2.1 110 0 i = some (0, i) := s.2.2.2.2.2.2.2.1 i hi
theorem SB.truck {h : AH} (s : SB h) {i : Nat} (hi : i < 12) : h.2.1 113 0 i = some (3, i) := s.2.2.2.2.2.2.2.2 i hi
/-- the sum of the first n numbers -/
def sm (f : Nat → Int32) : Nat → Int32
  | 0 => 0
  | n + 1 => sm f n + f n
/-- the outcome of a test: it is passed, or an exception of the kind k comes -/
def rX (ok : Prop) (k : Nat) (h : AH) : GO → AH → Prop := fun g h' => h' = h ∧ ((ok ∧ g = .inl none) ∨ (¬ ok ∧ g = .inr k))
/-- an object by its number j below n, or an exception -/
def rJ (c k n : Nat) (x : Int32) (h : AH) : GO → AH → Prop := fun g h' => h' = h ∧ ((∃ j, j < n ∧ x = nI j ∧ g = .inl (some (vO c j))) ∨ ((x < 0 ∨ nI n ≤ x) ∧ g = .inr k))
set_option maxHeartbeats 1000000 in
theorem g_Bk_requireRange {sc : Nat × (Nat → Int32)} {d bc bs : Nat} {h : AH} (x lo hi : Int32) : Go sc true true (d + 8) (bc + 1) (bs + 6) mBk_requireRange 0 [vI x, vI lo, vI hi] [] h (rX (lo ≤ x ∧ x ≤ hi) 1 h) := by
  refine Go.iload_n dBk_requireRange_0 rfl ?_
  refine Go.iload_n dBk_requireRange_1 rfl ?_
  refine Go.icmp_lt (tgt := 10) dBk_requireRange_2 (by decide) (fun q1 => ?_) (fun q1 => ?_)
  · first
      | exact Go.thrown dBk_requireRange_10 dBk_requireRange_13 dBk_requireRange_14 dBk_requireRange_16 dBk_requireRange_19 twBk_requireRange_10 rfl (by omega) (Nat.le_of_ble_eq_true rfl) ⟨rfl, Or.inr ⟨fun q => q2 q.2, rfl⟩⟩
      | exact Go.thrown dBk_requireRange_10 dBk_requireRange_13 dBk_requireRange_14 dBk_requireRange_16 dBk_requireRange_19 twBk_requireRange_10 rfl (by omega) (Nat.le_of_ble_eq_true rfl) ⟨rfl, Or.inr ⟨fun q => (Int32.not_lt.mpr q.1) q1, rfl⟩⟩
  · refine Go.iload_n dBk_requireRange_5 rfl ?_
    refine Go.iload_n dBk_requireRange_6 rfl ?_
    refine Go.icmp_le (tgt := 20) dBk_requireRange_7 (by decide) (fun q2 => ?_) (fun q2 => ?_)
    · refine Go.vret dBk_requireRange_20 rfl (by decide) ?_
      exact ⟨rfl, Or.inl ⟨⟨Int32.not_lt.mp q1, q2⟩, rfl⟩⟩
    · first
        | exact Go.thrown dBk_requireRange_10 dBk_requireRange_13 dBk_requireRange_14 dBk_requireRange_16 dBk_requireRange_19 twBk_requireRange_10 rfl (by omega) (Nat.le_of_ble_eq_true rfl) ⟨rfl, Or.inr ⟨fun q => q2 q.2, rfl⟩⟩
        | exact Go.thrown dBk_requireRange_10 dBk_requireRange_13 dBk_requireRange_14 dBk_requireRange_16 dBk_requireRange_19 twBk_requireRange_10 rfl (by omega) (Nat.le_of_ble_eq_true rfl) ⟨rfl, Or.inr ⟨fun q => (Int32.not_lt.mpr q.1) q1, rfl⟩⟩
set_option maxHeartbeats 1000000 in
theorem g_Bk_requireState {sc : Nat × (Nat → Int32)} {d bc bs : Nat} {h : AH} (j : Nat) (x : Int32) : Go sc true true (d + 8) (bc + 1) (bs + 6) mBk_requireState 0 [vO 3 j, vI x] [] h (rX (h.1 3 j 5 = x) 4 h) := by
  refine Go.aload_n dBk_requireState_0 rfl (Nat.ne_of_beq_eq_false rfl) ?_
  refine Go.getI dBk_requireState_1 flBk_107 (Nat.le_of_ble_eq_true rfl) rfl ?_
  refine Go.iload_n dBk_requireState_4 rfl ?_
  refine Go.icmp_eq (tgt := 18) dBk_requireState_5 (by decide) (fun q1 => ?_) (fun q1 => ?_)
  · refine Go.vret dBk_requireState_18 rfl (by decide) ?_
    exact ⟨rfl, Or.inl ⟨q1, rfl⟩⟩
  · exact Go.thrown dBk_requireState_8 dBk_requireState_11 dBk_requireState_12 dBk_requireState_14 dBk_requireState_17 twBk_requireState_8 rfl (by omega) (Nat.le_of_ble_eq_true rfl) ⟨rfl, Or.inr ⟨q1, rfl⟩⟩
set_option maxHeartbeats 1000000 in
theorem g_Bk_truckNumbered {sc : Nat × (Nat → Int32)} {d bc bs : Nat} {h : AH} (s : SB h) {n : Nat} (hn : h.1 4 0 5 = nI n) (hle : n ≤ 12) (x : Int32) : Go sc true true (d + 8) (bc + 1) (bs + 6) mBk_truckNumbered 0 [vO 4 0, vI x] [] h (rJ 3 3 n x h) := by
  refine Go.iload_n dBk_truckNumbered_0 rfl ?_
  refine Go.if_lt (tgt := 12) dBk_truckNumbered_1 (by decide) (fun q1 => ?_) (fun q1 => ?_)
  · first
      | exact Go.thrown dBk_truckNumbered_12 dBk_truckNumbered_15 dBk_truckNumbered_16 dBk_truckNumbered_18 dBk_truckNumbered_21 twBk_truckNumbered_12 rfl (by omega) (Nat.le_of_ble_eq_true rfl) ⟨rfl, Or.inr ⟨Or.inr (by rw [← hn]; exact Int32.not_lt.mp q2), rfl⟩⟩
      | exact Go.thrown dBk_truckNumbered_12 dBk_truckNumbered_15 dBk_truckNumbered_16 dBk_truckNumbered_18 dBk_truckNumbered_21 twBk_truckNumbered_12 rfl (by omega) (Nat.le_of_ble_eq_true rfl) ⟨rfl, Or.inr ⟨Or.inl q1, rfl⟩⟩
  · refine Go.iload_n dBk_truckNumbered_4 rfl ?_
    refine Go.aload_n dBk_truckNumbered_5 rfl (Nat.ne_of_beq_eq_false rfl) ?_
    refine Go.getI dBk_truckNumbered_6 flBk_35 (Nat.le_of_ble_eq_true rfl) rfl ?_
    refine Go.icmp_lt (tgt := 22) dBk_truckNumbered_9 (by decide) (fun q2 => ?_) (fun q2 => ?_)
    · refine Go.aload_n dBk_truckNumbered_22 rfl (Nat.ne_of_beq_eq_false rfl) ?_
      refine Go.getR dBk_truckNumbered_23 flBk_17 (Nat.le_of_ble_eq_true rfl) rfl s.trucks ?_
      refine Go.iload_n dBk_truckNumbered_26 rfl ?_
      rw [hn] at q2
      obtain ⟨j, hj, hx⟩ : ∃ j : Nat, j < n ∧ x = nI j := by
        obtain ⟨j, hj, rfl⟩ := nI_of q1
        exact ⟨j, (nI_ltI hj (by omega)).mp q2, rfl⟩
      refine Go.aald dBk_truckNumbered_27 (by decide) rfl hx (by rw [s.ltrucks]; omega) (by omega) (s.truck (by omega)) ?_
      refine Go.aret dBk_truckNumbered_28 rfl (by decide) ?_
      exact ⟨rfl, Or.inl ⟨j, hj, hx, rfl⟩⟩
    · first
        | exact Go.thrown dBk_truckNumbered_12 dBk_truckNumbered_15 dBk_truckNumbered_16 dBk_truckNumbered_18 dBk_truckNumbered_21 twBk_truckNumbered_12 rfl (by omega) (Nat.le_of_ble_eq_true rfl) ⟨rfl, Or.inr ⟨Or.inr (by rw [← hn]; exact Int32.not_lt.mp q2), rfl⟩⟩
        | exact Go.thrown dBk_truckNumbered_12 dBk_truckNumbered_15 dBk_truckNumbered_16 dBk_truckNumbered_18 dBk_truckNumbered_21 twBk_truckNumbered_12 rfl (by omega) (Nat.le_of_ble_eq_true rfl) ⟨rfl, Or.inr ⟨Or.inl q1, rfl⟩⟩
set_option maxHeartbeats 1000000 in
theorem g_Bk_doorNumbered {sc : Nat × (Nat → Int32)} {d bc bs : Nat} {h : AH} (s : SB h) {n : Nat} (hn : h.1 4 0 4 = nI n) (hle : n ≤ 4) (x : Int32) : Go sc true true (d + 8) (bc + 1) (bs + 6) mBk_doorNumbered 0 [vO 4 0, vI x] [] h (rJ 0 3 n x h) := by
  refine Go.iload_n dBk_doorNumbered_0 rfl ?_
  refine Go.if_lt (tgt := 12) dBk_doorNumbered_1 (by decide) (fun q1 => ?_) (fun q1 => ?_)
  · first
      | exact Go.thrown dBk_doorNumbered_12 dBk_doorNumbered_15 dBk_doorNumbered_16 dBk_doorNumbered_18 dBk_doorNumbered_21 twBk_doorNumbered_12 rfl (by omega) (Nat.le_of_ble_eq_true rfl) ⟨rfl, Or.inr ⟨Or.inr (by rw [← hn]; exact Int32.not_lt.mp q2), rfl⟩⟩
      | exact Go.thrown dBk_doorNumbered_12 dBk_doorNumbered_15 dBk_doorNumbered_16 dBk_doorNumbered_18 dBk_doorNumbered_21 twBk_doorNumbered_12 rfl (by omega) (Nat.le_of_ble_eq_true rfl) ⟨rfl, Or.inr ⟨Or.inl q1, rfl⟩⟩
  · refine Go.iload_n dBk_doorNumbered_4 rfl ?_
    refine Go.aload_n dBk_doorNumbered_5 rfl (Nat.ne_of_beq_eq_false rfl) ?_
    refine Go.getI dBk_doorNumbered_6 flBk_31 (Nat.le_of_ble_eq_true rfl) rfl ?_
    refine Go.icmp_lt (tgt := 22) dBk_doorNumbered_9 (by decide) (fun q2 => ?_) (fun q2 => ?_)
    · refine Go.aload_n dBk_doorNumbered_22 rfl (Nat.ne_of_beq_eq_false rfl) ?_
      refine Go.getR dBk_doorNumbered_23 flBk_11 (Nat.le_of_ble_eq_true rfl) rfl s.doors ?_
      refine Go.iload_n dBk_doorNumbered_26 rfl ?_
      rw [hn] at q2
      obtain ⟨j, hj, hx⟩ : ∃ j : Nat, j < n ∧ x = nI j := by
        obtain ⟨j, hj, rfl⟩ := nI_of q1
        exact ⟨j, (nI_ltI hj (by omega)).mp q2, rfl⟩
      refine Go.aald dBk_doorNumbered_27 (by decide) rfl hx (by rw [s.ldoors]; omega) (by omega) (s.door (by omega)) ?_
      refine Go.aret dBk_doorNumbered_28 rfl (by decide) ?_
      exact ⟨rfl, Or.inl ⟨j, hj, hx, rfl⟩⟩
    · first
        | exact Go.thrown dBk_doorNumbered_12 dBk_doorNumbered_15 dBk_doorNumbered_16 dBk_doorNumbered_18 dBk_doorNumbered_21 twBk_doorNumbered_12 rfl (by omega) (Nat.le_of_ble_eq_true rfl) ⟨rfl, Or.inr ⟨Or.inr (by rw [← hn]; exact Int32.not_lt.mp q2), rfl⟩⟩
        | exact Go.thrown dBk_doorNumbered_12 dBk_doorNumbered_15 dBk_doorNumbered_16 dBk_doorNumbered_18 dBk_doorNumbered_21 twBk_doorNumbered_12 rfl (by omega) (Nat.le_of_ble_eq_true rfl) ⟨rfl, Or.inr ⟨Or.inl q1, rfl⟩⟩
set_option maxHeartbeats 1000000 in
theorem l_Bk_trucksThatAre {sc : Nat × (Nat → Int32)} {d bc bs : Nat} {h : AH} (s : SB h) {n : Nat} (hn : h.1 4 0 5 = nI n) (hle : n ≤ 12) (x : Int32) : ∀ k i, i + k = n → Go sc true true d bc bs mBk_trucksThatAre 4 [vO 4 0, vI x, vI (sm (fun j => if h.1 3 j 5 = x then 1 else 0) i), vI (nI i)] [] h (rV (sm (fun j => if h.1 3 j 5 = x then 1 else 0) n) h)
  | k, i, hik => by
    refine Go.iload_n dBk_trucksThatAre_4 rfl ?_
    refine Go.aload_n dBk_trucksThatAre_5 rfl (Nat.ne_of_beq_eq_false rfl) ?_
    refine Go.getI dBk_trucksThatAre_6 flBk_35 (Nat.le_of_ble_eq_true rfl) rfl ?_
    refine Go.icmp_ge (tgt := 39) dBk_trucksThatAre_9 (by decide) (fun q1 => ?_) (fun q1 => ?_)
    · refine Go.iload_n dBk_trucksThatAre_39 rfl ?_
      refine Go.iret dBk_trucksThatAre_40 rfl rfl (by decide) ?_
      rw [hn] at q1
      have hi : i = n := by
        have h9 : n ≤ i := (nI_leI (by omega) (by omega)).mp q1
        omega
      subst hi
      exact ⟨rfl, rfl⟩
    · refine Go.iload_n dBk_trucksThatAre_12 rfl ?_
      refine Go.aload_n dBk_trucksThatAre_13 rfl (Nat.ne_of_beq_eq_false rfl) ?_
      refine Go.getR dBk_trucksThatAre_14 flBk_17 (Nat.le_of_ble_eq_true rfl) rfl s.trucks ?_
      refine Go.iload_n dBk_trucksThatAre_17 rfl ?_
      have hi : i < n := by
        rw [hn] at q1
        exact Nat.not_le.mp (fun h9 => q1 (nI_le h9 (by omega)))
      refine Go.aald dBk_trucksThatAre_18 (by decide) rfl rfl (by rw [s.ltrucks]; omega) (by omega) (s.truck (by omega)) ?_
      refine Go.getI dBk_trucksThatAre_19 flBk_107 (Nat.le_of_ble_eq_true rfl) rfl ?_
      refine Go.iload_n dBk_trucksThatAre_22 rfl ?_
      refine Go.icmp_ne (tgt := 30) dBk_trucksThatAre_23 (by decide) (fun q2 => ?_) (fun q2 => ?_)
      · refine Go.iconst (v := 0) dBk_trucksThatAre_30 (by decide) ?_
        refine Go.iadd dBk_trucksThatAre_31 ?_
        refine Go.istore_n dBk_trucksThatAre_32 (by decide) rfl ?_
        refine Go.iinc dBk_trucksThatAre_33 (by decide) rfl rfl rfl ?_
        refine Go.goto (tgt := 4) dBk_trucksThatAre_36 (by decide) ?_
        have hi : i < n := by
          rw [hn] at q1
          exact Nat.not_le.mp (fun h9 => q1 (nI_le h9 (by omega)))
        obtain ⟨k, rfl⟩ : ∃ k0, k = k0 + 1 := ⟨k - 1, by omega⟩
        have h8 := l_Bk_trucksThatAre (sc := sc) (d := d) (bc := bc) (bs := bs) s hn hle x k (i + 1) (by omega)
        simp only [sm, q2, if_true, if_false, ite_true, ite_false, not_false_eq_true] at h8
        rw [nI_succ] at h8
        exact h8
      · refine Go.iconst (v := 1) dBk_trucksThatAre_26 (by decide) ?_
        refine Go.goto (tgt := 31) dBk_trucksThatAre_27 (by decide) ?_
        refine Go.iadd dBk_trucksThatAre_31 ?_
        refine Go.istore_n dBk_trucksThatAre_32 (by decide) rfl ?_
        refine Go.iinc dBk_trucksThatAre_33 (by decide) rfl rfl rfl ?_
        refine Go.goto (tgt := 4) dBk_trucksThatAre_36 (by decide) ?_
        have hi : i < n := by
          rw [hn] at q1
          exact Nat.not_le.mp (fun h9 => q1 (nI_le h9 (by omega)))
        obtain ⟨k, rfl⟩ : ∃ k0, k = k0 + 1 := ⟨k - 1, by omega⟩
        have h8 := l_Bk_trucksThatAre (sc := sc) (d := d) (bc := bc) (bs := bs) s hn hle x k (i + 1) (by omega)
        simp only [sm, q2, if_true, if_false, ite_true, ite_false, not_false_eq_true] at h8
        rw [nI_succ] at h8
        exact h8
theorem g_Bk_trucksThatAre {sc : Nat × (Nat → Int32)} {d bc bs : Nat} {h : AH} (s : SB h) {n : Nat} (hn : h.1 4 0 5 = nI n) (hle : n ≤ 12) (x : Int32) : Go sc true true d bc bs mBk_trucksThatAre 0 [vO 4 0, vI x, vU, vU] [] h (rV (sm (fun j => if h.1 3 j 5 = x then 1 else 0) n) h) := by
  refine Go.iconst (v := 0) dBk_trucksThatAre_0 (by decide) ?_
  refine Go.istore_n dBk_trucksThatAre_1 (by decide) rfl ?_
  refine Go.iconst (v := 0) dBk_trucksThatAre_2 (by decide) ?_
  refine Go.istore_n dBk_trucksThatAre_3 (by decide) rfl ?_
  exact l_Bk_trucksThatAre s hn hle x n 0 (by omega)
theorem g_Bk_exact {sc : Nat × (Nat → Int32)} {d bc bs : Nat} {h : AH} (hb : h.1 4 0 7 = 0 ∨ h.1 4 0 7 = 1) : Go sc true true d bc bs mBk_exact 0 [vO 4 0] [] h (rV (h.1 4 0 7) h) := by
  refine Go.aload_n dBk_exact_0 rfl (Nat.ne_of_beq_eq_false rfl) ?_
  refine Go.getI dBk_exact_1 flBk_41 (Nat.le_of_ble_eq_true rfl) rfl ?_
  refine Go.iret dBk_exact_4 rfl (by rcases hb with e | e <;> rw [e] <;> rfl) (by decide) ?_
  exact ⟨rfl, rfl⟩
theorem g_Bk_moved {sc : Nat × (Nat → Int32)} {d bc bs : Nat} {h : AH} (hb : h.1 4 0 7 = 0 ∨ h.1 4 0 7 = 1) : Go sc true true d bc bs mBk_moved 0 [vO 4 0] [] h (rV (h.1 4 0 8) h) := by
  refine Go.aload_n dBk_moved_0 rfl (Nat.ne_of_beq_eq_false rfl) ?_
  refine Go.getI dBk_moved_1 flBk_45 (Nat.le_of_ble_eq_true rfl) rfl ?_
  refine Go.iret dBk_moved_4 rfl rfl (by decide) ?_
  exact ⟨rfl, rfl⟩
end
section
/-! CALLS IN SHORT: by what the callee's contract says -/
def ma_nlb : AV → Bool
  | .inr (.inr _) => false
  | _ => true
theorem ma_nls {vs : List AV} (h : vs.all ma_nlb = true) : ∀ v ∈ vs, ma_nl v := fun v hv => by
  have h1 := List.all_eq_true.mp h v hv
  rcases v with i | r | z
  · trivial
  · trivial
  · cases h1
theorem Go.callVr {sc : Nat × (Nat → Int32)} {cl rd : Bool} {d2 bc bs : Nat} {y : MD} {pc : Nat} {ls st stk ls2 : List AV} {h : AH} {Q : GO → AH → Prop} (y2 : MD) (vs : List AV) {k i idx : Nat} (hd : decode y.2.1 pc = .ok (.invokevirtual idx, 3)) (hvw : ma_VW y.1.cls idx y2 k vs.length) (hk : k < 90) (hs : vs.reverse ++ vO k i :: st = stk) (hl2 : (vO k i :: vs) ++ List.replicate (y2.2.2.1 - (vs.length + 1)) vU = ls2) (hN : vs.length + 1 ≤ y2.2.2.1) (hnl : vs.all ma_nlb = true) (h8 : st.length ≤ 4) {v : Int32} (G2 : Go sc true true d2 0 0 y2 0 ls2 [] h (rV v h)) (kk : Go sc cl rd (d2 + 1) bc bs y (pc + 3) ls (vI v :: st) h Q) : Go sc cl rd (d2 + 1) bc bs y pc ls stk h Q :=
  Go.callV (bc2 := 0) (bs2 := 0) (rd2 := true) cl y2 vs hd hvw hk hs hl2 hN (ma_nls hnl) h8 (fun hc => ⟨hc, rfl, fun _ _ hq => hq.2⟩) G2 (fun _ hq => by cases hq.1) (fun v' h1 hq => by obtain ⟨e1, e2⟩ := hq; cases e1; cases e2; exact kk) (fun _ _ hq => by cases hq.1)
theorem Go.callVn {sc : Nat × (Nat → Int32)} {cl rd : Bool} {d2 bc bs : Nat} {y : MD} {pc : Nat} {ls st stk ls2 : List AV} {h : AH} {Q : GO → AH → Prop} (y2 : MD) (vs : List AV) {k i idx : Nat} (hd : decode y.2.1 pc = .ok (.invokevirtual idx, 3)) (hvw : ma_VW y.1.cls idx y2 k vs.length) (hk : k < 90) (hs : vs.reverse ++ vO k i :: st = stk) (hl2 : (vO k i :: vs) ++ List.replicate (y2.2.2.1 - (vs.length + 1)) vU = ls2) (hN : vs.length + 1 ≤ y2.2.2.1) (hnl : vs.all ma_nlb = true) (h8 : st.length ≤ 4) {h2 : AH} (G2 : Go sc true false d2 0 0 y2 0 ls2 [] h (rN h2)) (kk : Go sc false rd (d2 + 1) bc bs y (pc + 3) ls st h2 Q) : Go sc cl rd (d2 + 1) bc bs y pc ls stk h Q :=
  Go.callV (bc2 := 0) (bs2 := 0) (rd2 := false) false y2 vs hd hvw hk hs hl2 hN (ma_nls hnl) h8 (fun hc => nomatch hc) G2 (fun h1 hq => by cases hq.2; exact kk) (fun _ _ hq => by cases hq.1) (fun _ _ hq => by cases hq.1)
theorem Go.callVw {sc : Nat × (Nat → Int32)} {cl rd : Bool} {d2 bc bs : Nat} {y : MD} {pc : Nat} {ls st stk ls2 : List AV} {h : AH} {Q : GO → AH → Prop} (y2 : MD) (vs : List AV) {k i idx : Nat} (hd : decode y.2.1 pc = .ok (.invokevirtual idx, 3)) (hvw : ma_VW y.1.cls idx y2 k vs.length) (hk : k < 90) (hs : vs.reverse ++ vO k i :: st = stk) (hl2 : (vO k i :: vs) ++ List.replicate (y2.2.2.1 - (vs.length + 1)) vU = ls2) (hN : vs.length + 1 ≤ y2.2.2.1) (hnl : vs.all ma_nlb = true) (h8 : st.length ≤ 4) {v : Int32} {h2 : AH} (G2 : Go sc true false d2 0 0 y2 0 ls2 [] h (rV v h2)) (kk : Go sc false rd (d2 + 1) bc bs y (pc + 3) ls (vI v :: st) h2 Q) : Go sc cl rd (d2 + 1) bc bs y pc ls stk h Q :=
  Go.callV (bc2 := 0) (bs2 := 0) (rd2 := false) false y2 vs hd hvw hk hs hl2 hN (ma_nls hnl) h8 (fun hc => nomatch hc) G2 (fun _ hq => by cases hq.1) (fun v' h1 hq => by obtain ⟨e1, e2⟩ := hq; cases e1; cases e2; exact kk) (fun _ _ hq => by cases hq.1)
theorem Go.callVx {sc : Nat × (Nat → Int32)} {cl rd : Bool} {d2 bc bs : Nat} {y : MD} {pc : Nat} {ls st stk ls2 : List AV} {h : AH} {Q : GO → AH → Prop} (y2 : MD) (vs : List AV) {k i idx : Nat} (hd : decode y.2.1 pc = .ok (.invokevirtual idx, 3)) (hvw : ma_VW y.1.cls idx y2 k vs.length) (hk : k < 90) (hs : vs.reverse ++ vO k i :: st = stk) (hl2 : (vO k i :: vs) ++ List.replicate (y2.2.2.1 - (vs.length + 1)) vU = ls2) (hN : vs.length + 1 ≤ y2.2.2.1) (hnl : vs.all ma_nlb = true) (h8 : st.length ≤ 4) {ok : Prop} {kx : Nat} (hno : (tableOf y.2.2.2.2).all (fun x => !covers x pc) = true) (hrd : rd = true → cl = true) (G2 : Go sc true true d2 1 6 y2 0 ls2 [] h (rX ok kx h)) (kk : ok → Go sc cl rd (d2 + 1) bc bs y (pc + 3) ls st h Q) (kq : ¬ ok → Q (.inr kx) h) : Go sc cl rd (d2 + 1) (bc + 1) (bs + 6) y pc ls stk h Q :=
  Go.callV (bc2 := 1) (bs2 := 6) (rd2 := true) cl y2 vs hd hvw hk hs hl2 hN (ma_nls hnl) h8 (fun hc => ⟨hc, rfl, fun _ _ hq => hq.1⟩) G2 (fun h1 hq => by
    obtain ⟨e1, ⟨e2, -⟩ | ⟨-, e3⟩⟩ := hq
    · cases e1; exact kk e2
    · cases e3) (fun _ _ hq => by obtain ⟨-, ⟨-, e3⟩ | ⟨-, e3⟩⟩ := hq <;> cases e3) (fun k' h1 hq => by
    obtain ⟨e1, ⟨-, e3⟩ | ⟨e2, e3⟩⟩ := hq
    · cases e3
    · cases e1; cases e3; exact Or.inl ⟨hno, hrd, kq e2⟩)
theorem Go.callVj {sc : Nat × (Nat → Int32)} {cl rd : Bool} {d2 bc bs : Nat} {y : MD} {pc : Nat} {ls st stk ls2 : List AV} {h : AH} {Q : GO → AH → Prop} (y2 : MD) (vs : List AV) {k i idx : Nat} (hd : decode y.2.1 pc = .ok (.invokevirtual idx, 3)) (hvw : ma_VW y.1.cls idx y2 k vs.length) (hk : k < 90) (hs : vs.reverse ++ vO k i :: st = stk) (hl2 : (vO k i :: vs) ++ List.replicate (y2.2.2.1 - (vs.length + 1)) vU = ls2) (hN : vs.length + 1 ≤ y2.2.2.1) (hnl : vs.all ma_nlb = true) (h8 : st.length ≤ 4) {c kx n : Nat} {x : Int32} (hno : (tableOf y.2.2.2.2).all (fun x => !covers x pc) = true) (hrd : rd = true → cl = true) (G2 : Go sc true true d2 1 6 y2 0 ls2 [] h (rJ c kx n x h)) (kk : ∀ j, j < n → x = nI j → Go sc cl rd (d2 + 1) bc bs y (pc + 3) ls (vO c j :: st) h Q) (kq : (x < 0 ∨ nI n ≤ x) → Q (.inr kx) h) : Go sc cl rd (d2 + 1) (bc + 1) (bs + 6) y pc ls stk h Q :=
  Go.callV (bc2 := 1) (bs2 := 6) (rd2 := true) cl y2 vs hd hvw hk hs hl2 hN (ma_nls hnl) h8 (fun hc => ⟨hc, rfl, fun _ _ hq => hq.1⟩) G2 (fun _ hq => by obtain ⟨-, ⟨_, -, -, e3⟩ | ⟨-, e3⟩⟩ := hq <;> cases e3) (fun v' h1 hq => by
    obtain ⟨e1, ⟨j, e2, e4, e3⟩ | ⟨-, e3⟩⟩ := hq
    · cases e1; cases e3; exact kk j e2 e4
    · cases e3) (fun k' h1 hq => by
    obtain ⟨e1, ⟨_, -, -, e3⟩ | ⟨e2, e3⟩⟩ := hq
    · cases e3
    · cases e1; cases e3; exact Or.inl ⟨hno, hrd, kq e2⟩)
theorem Go.callSr {sc : Nat × (Nat → Int32)} {cl rd : Bool} {d2 bc bs : Nat} {y : MD} {pc : Nat} {ls st stk ls2 : List AV} {h : AH} {Q : GO → AH → Prop} (y2 : MD) (vs : List AV) {idx : Nat} (hd : decode y.2.1 pc = .ok (.invokestatic idx, 3)) (hvw : ma_SW y.1.cls idx y2 vs.length) (hs : vs.reverse ++ st = stk) (hl2 : vs ++ List.replicate (y2.2.2.1 - vs.length) vU = ls2) (hN : vs.length ≤ y2.2.2.1) (hnl : vs.all ma_nlb = true) (h8 : st.length ≤ 4) {v : Int32} (G2 : Go sc true true d2 0 0 y2 0 ls2 [] h (rV v h)) (kk : Go sc cl rd (d2 + 1) bc bs y (pc + 3) ls (vI v :: st) h Q) : Go sc cl rd (d2 + 1) bc bs y pc ls stk h Q :=
  Go.callS (bc2 := 0) (bs2 := 0) (rd2 := true) cl y2 vs hd hvw hs hl2 hN (ma_nls hnl) h8 (fun hc => ⟨hc, rfl, fun _ _ hq => hq.2⟩) G2 (fun _ hq => by cases hq.1) (fun v' h1 hq => by obtain ⟨e1, e2⟩ := hq; cases e1; cases e2; exact kk) (fun _ _ hq => by cases hq.1)
theorem Go.callSn {sc : Nat × (Nat → Int32)} {cl rd : Bool} {d2 bc bs : Nat} {y : MD} {pc : Nat} {ls st stk ls2 : List AV} {h : AH} {Q : GO → AH → Prop} (y2 : MD) (vs : List AV) {idx : Nat} (hd : decode y.2.1 pc = .ok (.invokestatic idx, 3)) (hvw : ma_SW y.1.cls idx y2 vs.length) (hs : vs.reverse ++ st = stk) (hl2 : vs ++ List.replicate (y2.2.2.1 - vs.length) vU = ls2) (hN : vs.length ≤ y2.2.2.1) (hnl : vs.all ma_nlb = true) (h8 : st.length ≤ 4) {h2 : AH} (G2 : Go sc true false d2 0 0 y2 0 ls2 [] h (rN h2)) (kk : Go sc false rd (d2 + 1) bc bs y (pc + 3) ls st h2 Q) : Go sc cl rd (d2 + 1) bc bs y pc ls stk h Q :=
  Go.callS (bc2 := 0) (bs2 := 0) (rd2 := false) false y2 vs hd hvw hs hl2 hN (ma_nls hnl) h8 (fun hc => nomatch hc) G2 (fun h1 hq => by cases hq.2; exact kk) (fun _ _ hq => by cases hq.1) (fun _ _ hq => by cases hq.1)
theorem Go.callSw {sc : Nat × (Nat → Int32)} {cl rd : Bool} {d2 bc bs : Nat} {y : MD} {pc : Nat} {ls st stk ls2 : List AV} {h : AH} {Q : GO → AH → Prop} (y2 : MD) (vs : List AV) {idx : Nat} (hd : decode y.2.1 pc = .ok (.invokestatic idx, 3)) (hvw : ma_SW y.1.cls idx y2 vs.length) (hs : vs.reverse ++ st = stk) (hl2 : vs ++ List.replicate (y2.2.2.1 - vs.length) vU = ls2) (hN : vs.length ≤ y2.2.2.1) (hnl : vs.all ma_nlb = true) (h8 : st.length ≤ 4) {v : Int32} {h2 : AH} (G2 : Go sc true false d2 0 0 y2 0 ls2 [] h (rV v h2)) (kk : Go sc false rd (d2 + 1) bc bs y (pc + 3) ls (vI v :: st) h2 Q) : Go sc cl rd (d2 + 1) bc bs y pc ls stk h Q :=
  Go.callS (bc2 := 0) (bs2 := 0) (rd2 := false) false y2 vs hd hvw hs hl2 hN (ma_nls hnl) h8 (fun hc => nomatch hc) G2 (fun _ hq => by cases hq.1) (fun v' h1 hq => by obtain ⟨e1, e2⟩ := hq; cases e1; cases e2; exact kk) (fun _ _ hq => by cases hq.1)
theorem Go.callSx {sc : Nat × (Nat → Int32)} {cl rd : Bool} {d2 bc bs : Nat} {y : MD} {pc : Nat} {ls st stk ls2 : List AV} {h : AH} {Q : GO → AH → Prop} (y2 : MD) (vs : List AV) {idx : Nat} (hd : decode y.2.1 pc = .ok (.invokestatic idx, 3)) (hvw : ma_SW y.1.cls idx y2 vs.length) (hs : vs.reverse ++ st = stk) (hl2 : vs ++ List.replicate (y2.2.2.1 - vs.length) vU = ls2) (hN : vs.length ≤ y2.2.2.1) (hnl : vs.all ma_nlb = true) (h8 : st.length ≤ 4) {ok : Prop} {kx : Nat} (hno : (tableOf y.2.2.2.2).all (fun x => !covers x pc) = true) (hrd : rd = true → cl = true) (G2 : Go sc true true d2 1 6 y2 0 ls2 [] h (rX ok kx h)) (kk : ok → Go sc cl rd (d2 + 1) bc bs y (pc + 3) ls st h Q) (kq : ¬ ok → Q (.inr kx) h) : Go sc cl rd (d2 + 1) (bc + 1) (bs + 6) y pc ls stk h Q :=
  Go.callS (bc2 := 1) (bs2 := 6) (rd2 := true) cl y2 vs hd hvw hs hl2 hN (ma_nls hnl) h8 (fun hc => ⟨hc, rfl, fun _ _ hq => hq.1⟩) G2 (fun h1 hq => by
    obtain ⟨e1, ⟨e2, -⟩ | ⟨-, e3⟩⟩ := hq
    · cases e1; exact kk e2
    · cases e3) (fun _ _ hq => by obtain ⟨-, ⟨-, e3⟩ | ⟨-, e3⟩⟩ := hq <;> cases e3) (fun k' h1 hq => by
    obtain ⟨e1, ⟨-, e3⟩ | ⟨e2, e3⟩⟩ := hq
    · cases e3
    · cases e1; cases e3; exact Or.inl ⟨hno, hrd, kq e2⟩)
theorem Go.callSj {sc : Nat × (Nat → Int32)} {cl rd : Bool} {d2 bc bs : Nat} {y : MD} {pc : Nat} {ls st stk ls2 : List AV} {h : AH} {Q : GO → AH → Prop} (y2 : MD) (vs : List AV) {idx : Nat} (hd : decode y.2.1 pc = .ok (.invokestatic idx, 3)) (hvw : ma_SW y.1.cls idx y2 vs.length) (hs : vs.reverse ++ st = stk) (hl2 : vs ++ List.replicate (y2.2.2.1 - vs.length) vU = ls2) (hN : vs.length ≤ y2.2.2.1) (hnl : vs.all ma_nlb = true) (h8 : st.length ≤ 4) {c kx n : Nat} {x : Int32} (hno : (tableOf y.2.2.2.2).all (fun x => !covers x pc) = true) (hrd : rd = true → cl = true) (G2 : Go sc true true d2 1 6 y2 0 ls2 [] h (rJ c kx n x h)) (kk : ∀ j, j < n → x = nI j → Go sc cl rd (d2 + 1) bc bs y (pc + 3) ls (vO c j :: st) h Q) (kq : (x < 0 ∨ nI n ≤ x) → Q (.inr kx) h) : Go sc cl rd (d2 + 1) (bc + 1) (bs + 6) y pc ls stk h Q :=
  Go.callS (bc2 := 1) (bs2 := 6) (rd2 := true) cl y2 vs hd hvw hs hl2 hN (ma_nls hnl) h8 (fun hc => ⟨hc, rfl, fun _ _ hq => hq.1⟩) G2 (fun _ hq => by obtain ⟨-, ⟨_, -, -, e3⟩ | ⟨-, e3⟩⟩ := hq <;> cases e3) (fun v' h1 hq => by
    obtain ⟨e1, ⟨j, e2, e4, e3⟩ | ⟨-, e3⟩⟩ := hq
    · cases e1; cases e3; exact kk j e2 e4
    · cases e3) (fun k' h1 hq => by
    obtain ⟨e1, ⟨_, -, -, e3⟩ | ⟨e2, e3⟩⟩ := hq
    · cases e3
    · cases e1; cases e3; exact Or.inl ⟨hno, hrd, kq e2⟩)
end
section
/-! THE BOOK'S NEXT METHODS -/
theorem sw5 (x : Int32) : (x.toInt < 0 ∨ 4 < x.toInt) ∨ x = 0 ∨ x = 1 ∨ x = 2 ∨ x = 3 ∨ x = 4 := by
  by_cases h : x.toInt < 0 ∨ 4 < x.toInt
  · exact Or.inl h
  · right
    have e : x.toInt = 0 ∨ x.toInt = 1 ∨ x.toInt = 2 ∨ x.toInt = 3 ∨ x.toInt = 4 := by omega
    rcases e with e | e | e | e | e
    · exact Or.inl (Int32.toInt_inj.mp e)
    · exact Or.inr (Or.inl (Int32.toInt_inj.mp e))
    · exact Or.inr (Or.inr (Or.inl (Int32.toInt_inj.mp e)))
    · exact Or.inr (Or.inr (Or.inr (Or.inl (Int32.toInt_inj.mp e))))
    · exact Or.inr (Or.inr (Or.inr (Or.inr ((Int32.toInt_inj.mp e)))))
theorem sw8 (x : Int32) : (x.toInt < 0 ∨ 7 < x.toInt) ∨ x = 0 ∨ x = 1 ∨ x = 2 ∨ x = 3 ∨ x = 4 ∨ x = 5 ∨ x = 6 ∨ x = 7 := by
  by_cases h : x.toInt < 0 ∨ 7 < x.toInt
  · exact Or.inl h
  · right
    have e : x.toInt = 0 ∨ x.toInt = 1 ∨ x.toInt = 2 ∨ x.toInt = 3 ∨ x.toInt = 4 ∨ x.toInt = 5 ∨ x.toInt = 6 ∨ x.toInt = 7 := by omega
    rcases e with e | e | e | e | e | e | e | e
    · exact Or.inl (Int32.toInt_inj.mp e)
    · exact Or.inr (Or.inl (Int32.toInt_inj.mp e))
    · exact Or.inr (Or.inr (Or.inl (Int32.toInt_inj.mp e)))
    · exact Or.inr (Or.inr (Or.inr (Or.inl (Int32.toInt_inj.mp e))))
    · exact Or.inr (Or.inr (Or.inr (Or.inr (Or.inl (Int32.toInt_inj.mp e)))))
    · exact Or.inr (Or.inr (Or.inr (Or.inr (Or.inr (Or.inl (Int32.toInt_inj.mp e))))))
    · exact Or.inr (Or.inr (Or.inr (Or.inr (Or.inr (Or.inr (Or.inl (Int32.toInt_inj.mp e)))))))
    · exact Or.inr (Or.inr (Or.inr (Or.inr (Or.inr (Or.inr (Or.inr ((Int32.toInt_inj.mp e))))))))
set_option maxHeartbeats 1000000 in
theorem l_Bk_planCost {sc : Nat × (Nat → Int32)} {d bc bs : Nat} {h : AH} (s : SB h) {n : Nat} (hn : h.1 4 0 5 = nI n) (hle : n ≤ 12) : ∀ k i, i + k = n → Go sc true true (d + 1) bc bs mBk_planCost 4 [vO 4 0, vI (sm (fun j => if h.1 3 j 5 = 0 then sp_cost h.1 j (h.1 3 j 7) else 0) i), vI (nI i)] [] h (rV (sm (fun j => if h.1 3 j 5 = 0 then sp_cost h.1 j (h.1 3 j 7) else 0) n) h)
  | k, i, hik => by
    refine Go.iload_n dBk_planCost_4 rfl ?_
    refine Go.aload_n dBk_planCost_5 rfl (Nat.ne_of_beq_eq_false rfl) ?_
    refine Go.getI dBk_planCost_6 flBk_35 (Nat.le_of_ble_eq_true rfl) rfl ?_
    refine Go.icmp_ge (tgt := 55) dBk_planCost_9 (by decide) (fun q1 => ?_) (fun q1 => ?_)
    · refine Go.iload_n dBk_planCost_55 rfl ?_
      refine Go.iret dBk_planCost_56 rfl rfl (by decide) ?_
      rw [hn] at q1
      have hi : i = n := by
        have h9 : n ≤ i := (nI_leI (by omega) (by omega)).mp q1
        omega
      subst hi
      exact ⟨rfl, rfl⟩
    · refine Go.iload_n dBk_planCost_12 rfl ?_
      refine Go.aload_n dBk_planCost_13 rfl (Nat.ne_of_beq_eq_false rfl) ?_
      refine Go.getR dBk_planCost_14 flBk_17 (Nat.le_of_ble_eq_true rfl) rfl s.trucks ?_
      refine Go.iload_n dBk_planCost_17 rfl ?_
      have hi : i < n := by
        rw [hn] at q1
        exact Nat.not_le.mp (fun h9 => q1 (nI_le h9 (by omega)))
      refine Go.aald dBk_planCost_18 (by decide) rfl rfl (by rw [s.ltrucks]; omega) (by omega) (s.truck (by omega)) ?_
      refine Go.getI dBk_planCost_19 flBk_107 (Nat.le_of_ble_eq_true rfl) rfl ?_
      refine Go.if_ne (tgt := 46) dBk_planCost_22 (by decide) (fun q2 => ?_) (fun q2 => ?_)
      · refine Go.iconst (v := 0) dBk_planCost_46 (by decide) ?_
        refine Go.iadd dBk_planCost_47 ?_
        refine Go.istore_n dBk_planCost_48 (by decide) rfl ?_
        refine Go.iinc dBk_planCost_49 (by decide) rfl rfl rfl ?_
        refine Go.goto (tgt := 4) dBk_planCost_52 (by decide) ?_
        obtain ⟨k, rfl⟩ : ∃ k0, k = k0 + 1 := ⟨k - 1, by omega⟩
        have h8 := l_Bk_planCost (sc := sc) (d := d) (bc := bc) (bs := bs) s hn hle k (i + 1) (by omega)
        simp only [sm] at h8
        rw [nI_succ] at h8
        first
          | (rw [if_pos q2] at h8; exact h8)
          | (rw [if_neg q2] at h8; exact h8)
      · refine Go.aload_n dBk_planCost_25 rfl (Nat.ne_of_beq_eq_false rfl) ?_
        refine Go.getR dBk_planCost_26 flBk_17 (Nat.le_of_ble_eq_true rfl) rfl s.trucks ?_
        refine Go.iload_n dBk_planCost_29 rfl ?_
        refine Go.aald dBk_planCost_30 (by decide) rfl rfl (by rw [s.ltrucks]; omega) (by omega) (s.truck (by omega)) ?_
        refine Go.aload_n dBk_planCost_31 rfl (Nat.ne_of_beq_eq_false rfl) ?_
        refine Go.getR dBk_planCost_32 flBk_17 (Nat.le_of_ble_eq_true rfl) rfl s.trucks ?_
        refine Go.iload_n dBk_planCost_35 rfl ?_
        refine Go.aald dBk_planCost_36 (by decide) rfl rfl (by rw [s.ltrucks]; omega) (by omega) (s.truck (by omega)) ?_
        refine Go.getI dBk_planCost_37 flBk_134 (Nat.le_of_ble_eq_true rfl) rfl ?_
        refine Go.callVr mTr_costAt [vI (h.1 3 i 7)] dBk_planCost_40 vwBk_210 (Nat.le_of_ble_eq_true rfl) rfl rfl (Nat.le_of_ble_eq_true rfl) rfl (Nat.le_of_ble_eq_true rfl) (g_Tr_costAt i (h.1 3 i 7)) ?_
        refine Go.goto (tgt := 47) dBk_planCost_43 (by decide) ?_
        refine Go.iadd dBk_planCost_47 ?_
        refine Go.istore_n dBk_planCost_48 (by decide) rfl ?_
        refine Go.iinc dBk_planCost_49 (by decide) rfl rfl rfl ?_
        refine Go.goto (tgt := 4) dBk_planCost_52 (by decide) ?_
        obtain ⟨k, rfl⟩ : ∃ k0, k = k0 + 1 := ⟨k - 1, by omega⟩
        have h8 := l_Bk_planCost (sc := sc) (d := d) (bc := bc) (bs := bs) s hn hle k (i + 1) (by omega)
        simp only [sm] at h8
        rw [nI_succ] at h8
        first
          | (rw [if_pos q2] at h8; exact h8)
          | (rw [if_neg q2] at h8; exact h8)
theorem g_Bk_planCost {sc : Nat × (Nat → Int32)} {d bc bs : Nat} {h : AH} (s : SB h) {n : Nat} (hn : h.1 4 0 5 = nI n) (hle : n ≤ 12) : Go sc true true (d + 1) bc bs mBk_planCost 0 [vO 4 0, vU, vU] [] h (rV (sm (fun j => if h.1 3 j 5 = 0 then sp_cost h.1 j (h.1 3 j 7) else 0) n) h) := by
  refine Go.iconst (v := 0) dBk_planCost_0 (by decide) ?_
  refine Go.istore_n dBk_planCost_1 (by decide) rfl ?_
  refine Go.iconst (v := 0) dBk_planCost_2 (by decide) ?_
  refine Go.istore_n dBk_planCost_3 (by decide) rfl ?_
  exact l_Bk_planCost s hn hle n 0 (by omega)
set_option maxHeartbeats 1000000 in
theorem l_Bk_plannedFor {sc : Nat × (Nat → Int32)} {d bc bs : Nat} {h : AH} (s : SB h) {n : Nat} (hn : h.1 4 0 5 = nI n) (hle : n ≤ 12) (x : Int32) : ∀ k i, i + k = n → Go sc true true (d + 1) bc bs mBk_plannedFor 4 [vO 4 0, vI x, vI (sm (fun j => if sp_planned h.1 j x = 0 then 0 else 1) i), vI (nI i)] [] h (rV (sm (fun j => if sp_planned h.1 j x = 0 then 0 else 1) n) h)
  | k, i, hik => by
    refine Go.iload_n dBk_plannedFor_4 rfl ?_
    refine Go.aload_n dBk_plannedFor_5 rfl (Nat.ne_of_beq_eq_false rfl) ?_
    refine Go.getI dBk_plannedFor_6 flBk_35 (Nat.le_of_ble_eq_true rfl) rfl ?_
    refine Go.icmp_ge (tgt := 39) dBk_plannedFor_9 (by decide) (fun q1 => ?_) (fun q1 => ?_)
    · refine Go.iload_n dBk_plannedFor_39 rfl ?_
      refine Go.iret dBk_plannedFor_40 rfl rfl (by decide) ?_
      rw [hn] at q1
      have hi : i = n := by
        have h9 : n ≤ i := (nI_leI (by omega) (by omega)).mp q1
        omega
      subst hi
      exact ⟨rfl, rfl⟩
    · refine Go.iload_n dBk_plannedFor_12 rfl ?_
      refine Go.aload_n dBk_plannedFor_13 rfl (Nat.ne_of_beq_eq_false rfl) ?_
      refine Go.getR dBk_plannedFor_14 flBk_17 (Nat.le_of_ble_eq_true rfl) rfl s.trucks ?_
      refine Go.iload_n dBk_plannedFor_17 rfl ?_
      have hi : i < n := by
        rw [hn] at q1
        exact Nat.not_le.mp (fun h9 => q1 (nI_le h9 (by omega)))
      refine Go.aald dBk_plannedFor_18 (by decide) rfl rfl (by rw [s.ltrucks]; omega) (by omega) (s.truck (by omega)) ?_
      refine Go.iload_n dBk_plannedFor_19 rfl ?_
      refine Go.callVr mTr_isPlannedFor [vI x] dBk_plannedFor_20 vwBk_174 (Nat.le_of_ble_eq_true rfl) rfl rfl (Nat.le_of_ble_eq_true rfl) rfl (Nat.le_of_ble_eq_true rfl) (g_Tr_isPlannedFor i x) ?_
      refine Go.if_eq (tgt := 30) dBk_plannedFor_23 (by decide) (fun q2 => ?_) (fun q2 => ?_)
      · refine Go.iconst (v := 0) dBk_plannedFor_30 (by decide) ?_
        refine Go.iadd dBk_plannedFor_31 ?_
        refine Go.istore_n dBk_plannedFor_32 (by decide) rfl ?_
        refine Go.iinc dBk_plannedFor_33 (by decide) rfl rfl rfl ?_
        refine Go.goto (tgt := 4) dBk_plannedFor_36 (by decide) ?_
        obtain ⟨k, rfl⟩ : ∃ k0, k = k0 + 1 := ⟨k - 1, by omega⟩
        have h8 := l_Bk_plannedFor (sc := sc) (d := d) (bc := bc) (bs := bs) s hn hle x k (i + 1) (by omega)
        simp only [sm] at h8
        rw [nI_succ] at h8
        first
          | (rw [if_pos q2] at h8; exact h8)
          | (rw [if_neg q2] at h8; exact h8)
      · refine Go.iconst (v := 1) dBk_plannedFor_26 (by decide) ?_
        refine Go.goto (tgt := 31) dBk_plannedFor_27 (by decide) ?_
        refine Go.iadd dBk_plannedFor_31 ?_
        refine Go.istore_n dBk_plannedFor_32 (by decide) rfl ?_
        refine Go.iinc dBk_plannedFor_33 (by decide) rfl rfl rfl ?_
        refine Go.goto (tgt := 4) dBk_plannedFor_36 (by decide) ?_
        obtain ⟨k, rfl⟩ : ∃ k0, k = k0 + 1 := ⟨k - 1, by omega⟩
        have h8 := l_Bk_plannedFor (sc := sc) (d := d) (bc := bc) (bs := bs) s hn hle x k (i + 1) (by omega)
        simp only [sm] at h8
        rw [nI_succ] at h8
        first
          | (rw [if_pos q2] at h8; exact h8)
          | (rw [if_neg q2] at h8; exact h8)
theorem g_Bk_plannedFor {sc : Nat × (Nat → Int32)} {d bc bs : Nat} {h : AH} (s : SB h) {n : Nat} (hn : h.1 4 0 5 = nI n) (hle : n ≤ 12) (x : Int32) : Go sc true true (d + 1) bc bs mBk_plannedFor 0 [vO 4 0, vI x, vU, vU] [] h (rV (sm (fun j => if sp_planned h.1 j x = 0 then 0 else 1) n) h) := by
  refine Go.iconst (v := 0) dBk_plannedFor_0 (by decide) ?_
  refine Go.istore_n dBk_plannedFor_1 (by decide) rfl ?_
  refine Go.iconst (v := 0) dBk_plannedFor_2 (by decide) ?_
  refine Go.istore_n dBk_plannedFor_3 (by decide) rfl ?_
  exact l_Bk_plannedFor s hn hle x n 0 (by omega)
set_option maxHeartbeats 1000000 in
theorem g_Bk_pass {sc : Nat × (Nat → Int32)} {d bc bs : Nat} {h : AH} (x : Int32) : Go sc true false (d + 9) (bc + 1) (bs + 6) mBk_pass 0 [vO 4 0, vI x] [] h (fun g h' => ((h.1 4 0 6 ≤ x ∧ x ≤ 2000) ∧ g = .inl none ∧ h' = (ma_up h.1 4 0 6 x, h.2)) ∨ (¬ (h.1 4 0 6 ≤ x ∧ x ≤ 2000) ∧ g = .inr 1 ∧ h' = h)) := by
  refine Go.iload_n dBk_pass_0 rfl ?_
  refine Go.aload_n dBk_pass_1 rfl (Nat.ne_of_beq_eq_false rfl) ?_
  refine Go.getI dBk_pass_2 flBk_38 (Nat.le_of_ble_eq_true rfl) rfl ?_
  refine Go.sipush (v := 2000) dBk_pass_5 (by decide) ?_
  refine Go.callSx mBk_requireRange [vI x, vI (h.1 4 0 6), vI 2000] dBk_pass_8 vwBk_52 rfl rfl (Nat.le_of_ble_eq_true rfl) rfl (Nat.le_of_ble_eq_true rfl) rfl (by decide) (g_Bk_requireRange x (h.1 4 0 6) 2000) (fun ok => ?_) (fun ok => Or.inr ⟨ok, rfl, rfl⟩)
  refine Go.aload_n dBk_pass_11 rfl (Nat.ne_of_beq_eq_false rfl) ?_
  refine Go.iload_n dBk_pass_12 rfl ?_
  refine Go.putI dBk_pass_13 fwBk_pass_38 (Nat.le_of_ble_eq_true rfl) rfl ⟨rfl, rfl⟩ ?_
  refine Go.vret dBk_pass_16 rfl (by decide) ?_
  exact Or.inl ⟨ok, rfl, rfl⟩
def sp_count (m : Nat → Nat → Nat → Int32) (n : Nat) (x : Int32) : Int32 := if x = 0 then m 4 0 4 else if x = 1 then m 4 0 5 else if x = 2 then sm (fun j => if m 3 j 5 = 0 then 1 else 0) n else if x = 3 then sm (fun j => if m 3 j 5 = 1 then 1 else 0) n else if x = 4 then sm (fun j => if m 3 j 5 = 2 then 1 else 0) n else if x = 5 then sm (fun j => if m 3 j 5 = 3 then 1 else 0) n else if x = 6 then m 4 0 6 else if x = 7 then sm (fun j => if m 3 j 5 = 0 then sp_cost m j (m 3 j 7) else 0) n else -1
set_option maxHeartbeats 1000000 in
theorem g_Bk_count {sc : Nat × (Nat → Int32)} {d bc bs : Nat} {h : AH} (s : SB h) {n : Nat} (hn : h.1 4 0 5 = nI n) (hle : n ≤ 12) (x : Int32) : Go sc true true (d + 2) bc bs mBk_count 0 [vO 4 0, vI x] [] h (rV (sp_count h.1 n x) h) := by
  refine Go.iload_n dBk_count_0 rfl ?_
  rcases sw8 x with qs | rfl | rfl | rfl | rfl | rfl | rfl | rfl | rfl
  · refine Go.tabOut (tgt := 92) dBk_count_1 qs (by decide) ?_
    refine Go.iconst (v := (-1)) dBk_count_92 (by decide) ?_
    refine Go.iret dBk_count_93 rfl rfl (by decide) ?_
    refine ⟨?_, rfl⟩
    first
      | rfl
      | (have e0 : ∀ j : Int32, 0 ≤ j.toInt → j.toInt ≤ 7 → x ≠ j := fun j h1 h2 h3 => by subst h3; omega
         simp [sp_count, e0 0 (by decide) (by decide), e0 1 (by decide) (by decide), e0 2 (by decide) (by decide), e0 3 (by decide) (by decide), e0 4 (by decide) (by decide), e0 5 (by decide) (by decide), e0 6 (by decide) (by decide), e0 7 (by decide) (by decide)])
  · refine Go.tabIn (off := 47) (tgt := 48) dBk_count_1 (by decide) (by decide) rfl (by decide) ?_
    refine Go.aload_n dBk_count_48 rfl (Nat.ne_of_beq_eq_false rfl) ?_
    refine Go.getI dBk_count_49 flBk_31 (Nat.le_of_ble_eq_true rfl) rfl ?_
    refine Go.iret dBk_count_52 rfl rfl (by decide) ?_
    refine ⟨?_, rfl⟩
    first
      | rfl
      | (have e0 : ∀ j : Int32, 0 ≤ j.toInt → j.toInt ≤ 7 → x ≠ j := fun j h1 h2 h3 => by subst h3; omega
         simp [sp_count, e0 0 (by decide) (by decide), e0 1 (by decide) (by decide), e0 2 (by decide) (by decide), e0 3 (by decide) (by decide), e0 4 (by decide) (by decide), e0 5 (by decide) (by decide), e0 6 (by decide) (by decide), e0 7 (by decide) (by decide)])
  · refine Go.tabIn (off := 52) (tgt := 53) dBk_count_1 (by decide) (by decide) rfl (by decide) ?_
    refine Go.aload_n dBk_count_53 rfl (Nat.ne_of_beq_eq_false rfl) ?_
    refine Go.getI dBk_count_54 flBk_35 (Nat.le_of_ble_eq_true rfl) rfl ?_
    refine Go.iret dBk_count_57 rfl rfl (by decide) ?_
    refine ⟨?_, rfl⟩
    first
      | rfl
      | (have e0 : ∀ j : Int32, 0 ≤ j.toInt → j.toInt ≤ 7 → x ≠ j := fun j h1 h2 h3 => by subst h3; omega
         simp [sp_count, e0 0 (by decide) (by decide), e0 1 (by decide) (by decide), e0 2 (by decide) (by decide), e0 3 (by decide) (by decide), e0 4 (by decide) (by decide), e0 5 (by decide) (by decide), e0 6 (by decide) (by decide), e0 7 (by decide) (by decide)])
  · refine Go.tabIn (off := 57) (tgt := 58) dBk_count_1 (by decide) (by decide) rfl (by decide) ?_
    refine Go.aload_n dBk_count_58 rfl (Nat.ne_of_beq_eq_false rfl) ?_
    refine Go.iconst (v := 0) dBk_count_59 (by decide) ?_
    refine Go.callVr mBk_trucksThatAre [vI 0] dBk_count_60 vwBk_196 (Nat.le_of_ble_eq_true rfl) rfl rfl (Nat.le_of_ble_eq_true rfl) rfl (Nat.le_of_ble_eq_true rfl) (g_Bk_trucksThatAre s hn hle 0) ?_
    refine Go.iret dBk_count_63 rfl rfl (by decide) ?_
    refine ⟨?_, rfl⟩
    first
      | rfl
      | (have e0 : ∀ j : Int32, 0 ≤ j.toInt → j.toInt ≤ 7 → x ≠ j := fun j h1 h2 h3 => by subst h3; omega
         simp [sp_count, e0 0 (by decide) (by decide), e0 1 (by decide) (by decide), e0 2 (by decide) (by decide), e0 3 (by decide) (by decide), e0 4 (by decide) (by decide), e0 5 (by decide) (by decide), e0 6 (by decide) (by decide), e0 7 (by decide) (by decide)])
  · refine Go.tabIn (off := 63) (tgt := 64) dBk_count_1 (by decide) (by decide) rfl (by decide) ?_
    refine Go.aload_n dBk_count_64 rfl (Nat.ne_of_beq_eq_false rfl) ?_
    refine Go.iconst (v := 1) dBk_count_65 (by decide) ?_
    refine Go.callVr mBk_trucksThatAre [vI 1] dBk_count_66 vwBk_196 (Nat.le_of_ble_eq_true rfl) rfl rfl (Nat.le_of_ble_eq_true rfl) rfl (Nat.le_of_ble_eq_true rfl) (g_Bk_trucksThatAre s hn hle 1) ?_
    refine Go.iret dBk_count_69 rfl rfl (by decide) ?_
    refine ⟨?_, rfl⟩
    first
      | rfl
      | (have e0 : ∀ j : Int32, 0 ≤ j.toInt → j.toInt ≤ 7 → x ≠ j := fun j h1 h2 h3 => by subst h3; omega
         simp [sp_count, e0 0 (by decide) (by decide), e0 1 (by decide) (by decide), e0 2 (by decide) (by decide), e0 3 (by decide) (by decide), e0 4 (by decide) (by decide), e0 5 (by decide) (by decide), e0 6 (by decide) (by decide), e0 7 (by decide) (by decide)])
  · refine Go.tabIn (off := 69) (tgt := 70) dBk_count_1 (by decide) (by decide) rfl (by decide) ?_
    refine Go.aload_n dBk_count_70 rfl (Nat.ne_of_beq_eq_false rfl) ?_
    refine Go.iconst (v := 2) dBk_count_71 (by decide) ?_
    refine Go.callVr mBk_trucksThatAre [vI 2] dBk_count_72 vwBk_196 (Nat.le_of_ble_eq_true rfl) rfl rfl (Nat.le_of_ble_eq_true rfl) rfl (Nat.le_of_ble_eq_true rfl) (g_Bk_trucksThatAre s hn hle 2) ?_
    refine Go.iret dBk_count_75 rfl rfl (by decide) ?_
    refine ⟨?_, rfl⟩
    first
      | rfl
      | (have e0 : ∀ j : Int32, 0 ≤ j.toInt → j.toInt ≤ 7 → x ≠ j := fun j h1 h2 h3 => by subst h3; omega
         simp [sp_count, e0 0 (by decide) (by decide), e0 1 (by decide) (by decide), e0 2 (by decide) (by decide), e0 3 (by decide) (by decide), e0 4 (by decide) (by decide), e0 5 (by decide) (by decide), e0 6 (by decide) (by decide), e0 7 (by decide) (by decide)])
  · refine Go.tabIn (off := 75) (tgt := 76) dBk_count_1 (by decide) (by decide) rfl (by decide) ?_
    refine Go.aload_n dBk_count_76 rfl (Nat.ne_of_beq_eq_false rfl) ?_
    refine Go.iconst (v := 3) dBk_count_77 (by decide) ?_
    refine Go.callVr mBk_trucksThatAre [vI 3] dBk_count_78 vwBk_196 (Nat.le_of_ble_eq_true rfl) rfl rfl (Nat.le_of_ble_eq_true rfl) rfl (Nat.le_of_ble_eq_true rfl) (g_Bk_trucksThatAre s hn hle 3) ?_
    refine Go.iret dBk_count_81 rfl rfl (by decide) ?_
    refine ⟨?_, rfl⟩
    first
      | rfl
      | (have e0 : ∀ j : Int32, 0 ≤ j.toInt → j.toInt ≤ 7 → x ≠ j := fun j h1 h2 h3 => by subst h3; omega
         simp [sp_count, e0 0 (by decide) (by decide), e0 1 (by decide) (by decide), e0 2 (by decide) (by decide), e0 3 (by decide) (by decide), e0 4 (by decide) (by decide), e0 5 (by decide) (by decide), e0 6 (by decide) (by decide), e0 7 (by decide) (by decide)])
  · refine Go.tabIn (off := 81) (tgt := 82) dBk_count_1 (by decide) (by decide) rfl (by decide) ?_
    refine Go.aload_n dBk_count_82 rfl (Nat.ne_of_beq_eq_false rfl) ?_
    refine Go.getI dBk_count_83 flBk_38 (Nat.le_of_ble_eq_true rfl) rfl ?_
    refine Go.iret dBk_count_86 rfl rfl (by decide) ?_
    refine ⟨?_, rfl⟩
    first
      | rfl
      | (have e0 : ∀ j : Int32, 0 ≤ j.toInt → j.toInt ≤ 7 → x ≠ j := fun j h1 h2 h3 => by subst h3; omega
         simp [sp_count, e0 0 (by decide) (by decide), e0 1 (by decide) (by decide), e0 2 (by decide) (by decide), e0 3 (by decide) (by decide), e0 4 (by decide) (by decide), e0 5 (by decide) (by decide), e0 6 (by decide) (by decide), e0 7 (by decide) (by decide)])
  · refine Go.tabIn (off := 86) (tgt := 87) dBk_count_1 (by decide) (by decide) rfl (by decide) ?_
    refine Go.aload_n dBk_count_87 rfl (Nat.ne_of_beq_eq_false rfl) ?_
    refine Go.callVr mBk_planCost [] dBk_count_88 vwBk_104 (Nat.le_of_ble_eq_true rfl) rfl rfl (Nat.le_of_ble_eq_true rfl) rfl (Nat.le_of_ble_eq_true rfl) (g_Bk_planCost s hn hle) ?_
    refine Go.iret dBk_count_91 rfl rfl (by decide) ?_
    refine ⟨?_, rfl⟩
    first
      | rfl
      | (have e0 : ∀ j : Int32, 0 ≤ j.toInt → j.toInt ≤ 7 → x ≠ j := fun j h1 h2 h3 => by subst h3; omega
         simp [sp_count, e0 0 (by decide) (by decide), e0 1 (by decide) (by decide), e0 2 (by decide) (by decide), e0 3 (by decide) (by decide), e0 4 (by decide) (by decide), e0 5 (by decide) (by decide), e0 6 (by decide) (by decide), e0 7 (by decide) (by decide)])
end
section
/-! THE BOOK'S WRITES -/
def ok_truck (a b c e : Int32) : Prop := (0 ≤ a ∧ a ≤ 7) ∧ (0 ≤ b ∧ b ≤ 2000) ∧ (1 ≤ c ∧ c ≤ 300) ∧ (1 ≤ e ∧ e ≤ 9)
def up_truck (m : Nat → Nat → Nat → Int32) (n : Nat) (a b c e : Int32) : Nat → Nat → Nat → Int32 := ma_up (ma_up (ma_up (ma_up (ma_up m 3 n 1 a) 3 n 2 b) 3 n 3 c) 3 n 4 e) 4 0 5 (nI (n + 1))
def ok_door (a b c : Int32) : Prop := (1 ≤ a ∧ a ≤ 255) ∧ (0 ≤ b ∧ b ≤ 2000) ∧ (b + 1 ≤ c ∧ c ≤ 2000)
def up_door (m : Nat → Nat → Nat → Int32) (n : Nat) (a b c : Int32) : Nat → Nat → Nat → Int32 := ma_up (ma_up (ma_up (ma_up m 0 n 0 a) 0 n 1 b) 0 n 2 c) 4 0 4 (nI (n + 1))
def rMake (ok : Prop) (n mx : Nat) (m' : Nat → Nat → Nat → Int32) (h : AH) : GO → AH → Prop := fun g h' => (ok ∧ n < mx ∧ g = .inl (some (vI (nI n))) ∧ h' = (m', h.2)) ∨ (ok ∧ n = mx ∧ g = .inr 2 ∧ h' = h) ∨ (¬ ok ∧ g = .inr 1 ∧ h' = h)
set_option maxHeartbeats 2000000 in
theorem g_Bk_truck {sc : Nat × (Nat → Int32)} {d bc bs : Nat} {h : AH} (s : SB h) {n : Nat} (hn : h.1 4 0 5 = nI n) (hle : n ≤ 12) (a b c e : Int32) : Go sc true false (d + 9) (bc + 5) (bs + 30) mBk_truck 0 [vO 4 0, vI a, vI b, vI c, vI e, vU] [] h (rMake (ok_truck a b c e) n 12 (up_truck h.1 n a b c e) h) := by
  refine Go.iload_n dBk_truck_0 rfl ?_
  refine Go.iconst (v := 0) dBk_truck_1 (by decide) ?_
  refine Go.bipush (v := 7) dBk_truck_2 (by decide) ?_
  refine Go.callSx mBk_requireRange [vI a, vI 0, vI 7] dBk_truck_4 vwBk_52 rfl rfl (Nat.le_of_ble_eq_true rfl) rfl (Nat.le_of_ble_eq_true rfl) rfl (by decide) (g_Bk_requireRange a 0 7) (fun ok1 => ?_) (fun ok1 => Or.inr (Or.inr ⟨fun z => ok1 z.1, rfl, rfl⟩))
  refine Go.iload_n dBk_truck_7 rfl ?_
  refine Go.iconst (v := 0) dBk_truck_8 (by decide) ?_
  refine Go.sipush (v := 2000) dBk_truck_9 (by decide) ?_
  refine Go.callSx mBk_requireRange [vI b, vI 0, vI 2000] dBk_truck_12 vwBk_52 rfl rfl (Nat.le_of_ble_eq_true rfl) rfl (Nat.le_of_ble_eq_true rfl) rfl (by decide) (g_Bk_requireRange b 0 2000) (fun ok2 => ?_) (fun ok2 => Or.inr (Or.inr ⟨fun z => ok2 z.2.1, rfl, rfl⟩))
  refine Go.iload_n dBk_truck_15 rfl ?_
  refine Go.iconst (v := 1) dBk_truck_16 (by decide) ?_
  refine Go.sipush (v := 300) dBk_truck_17 (by decide) ?_
  refine Go.callSx mBk_requireRange [vI c, vI 1, vI 300] dBk_truck_20 vwBk_52 rfl rfl (Nat.le_of_ble_eq_true rfl) rfl (Nat.le_of_ble_eq_true rfl) rfl (by decide) (g_Bk_requireRange c 1 300) (fun ok3 => ?_) (fun ok3 => Or.inr (Or.inr ⟨fun z => ok3 z.2.2.1, rfl, rfl⟩))
  refine Go.iload dBk_truck_23 rfl ?_
  refine Go.iconst (v := 1) dBk_truck_25 (by decide) ?_
  refine Go.bipush (v := 9) dBk_truck_26 (by decide) ?_
  refine Go.callSx mBk_requireRange [vI e, vI 1, vI 9] dBk_truck_28 vwBk_52 rfl rfl (Nat.le_of_ble_eq_true rfl) rfl (Nat.le_of_ble_eq_true rfl) rfl (by decide) (g_Bk_requireRange e 1 9) (fun ok4 => ?_) (fun ok4 => Or.inr (Or.inr ⟨fun z => ok4 z.2.2.2, rfl, rfl⟩))
  refine Go.aload_n dBk_truck_31 rfl (Nat.ne_of_beq_eq_false rfl) ?_
  refine Go.getI dBk_truck_32 flBk_35 (Nat.le_of_ble_eq_true rfl) rfl ?_
  refine Go.bipush (v := 12) dBk_truck_35 (by decide) ?_
  refine Go.icmp_lt (tgt := 50) dBk_truck_37 (by decide) (fun q1 => ?_) (fun q1 => ?_)
  · refine Go.aload_n dBk_truck_50 rfl (Nat.ne_of_beq_eq_false rfl) ?_
    refine Go.getR dBk_truck_51 flBk_17 (Nat.le_of_ble_eq_true rfl) rfl s.trucks ?_
    refine Go.aload_n dBk_truck_54 rfl (Nat.ne_of_beq_eq_false rfl) ?_
    refine Go.getI dBk_truck_55 flBk_35 (Nat.le_of_ble_eq_true rfl) rfl ?_
    have hlt : n < 12 := by
      rw [hn] at q1
      exact (nI_ltI (b := 12) (by omega) (by decide)).mp q1
    refine Go.aald dBk_truck_58 (by decide) rfl hn (by rw [s.ltrucks]; omega) (by omega) (s.truck (by omega)) ?_
    refine Go.astore dBk_truck_59 (by decide) rfl ?_
    refine Go.aload dBk_truck_61 rfl (Nat.ne_of_beq_eq_false rfl) ?_
    refine Go.iload_n dBk_truck_63 rfl ?_
    refine Go.putI dBk_truck_64 fwBk_truck_74 (Nat.le_of_ble_eq_true rfl) rfl ⟨rfl, rfl⟩ ?_
    refine Go.aload dBk_truck_67 rfl (Nat.ne_of_beq_eq_false rfl) ?_
    refine Go.iload_n dBk_truck_69 rfl ?_
    refine Go.putI dBk_truck_70 fwBk_truck_77 (Nat.le_of_ble_eq_true rfl) rfl ⟨rfl, rfl⟩ ?_
    refine Go.aload dBk_truck_73 rfl (Nat.ne_of_beq_eq_false rfl) ?_
    refine Go.iload_n dBk_truck_75 rfl ?_
    refine Go.putI dBk_truck_76 fwBk_truck_80 (Nat.le_of_ble_eq_true rfl) rfl ⟨rfl, rfl⟩ ?_
    refine Go.aload dBk_truck_79 rfl (Nat.ne_of_beq_eq_false rfl) ?_
    refine Go.iload dBk_truck_81 rfl ?_
    refine Go.putI dBk_truck_83 fwBk_truck_83 (Nat.le_of_ble_eq_true rfl) rfl ⟨rfl, rfl⟩ ?_
    refine Go.aload_n dBk_truck_86 rfl (Nat.ne_of_beq_eq_false rfl) ?_
    refine Go.dup trivial dBk_truck_87 ?_
    refine Go.getI dBk_truck_88 flBk_35 (Nat.le_of_ble_eq_true rfl) rfl ?_
    refine Go.iconst (v := 1) dBk_truck_91 (by decide) ?_
    refine Go.iadd dBk_truck_92 ?_
    refine Go.putI dBk_truck_93 fwBk_truck_35 (Nat.le_of_ble_eq_true rfl) rfl ⟨rfl, rfl⟩ ?_
    refine Go.aload_n dBk_truck_96 rfl (Nat.ne_of_beq_eq_false rfl) ?_
    refine Go.getI dBk_truck_97 flBk_35 (Nat.le_of_ble_eq_true rfl) rfl ?_
    refine Go.iconst (v := 1) dBk_truck_100 (by decide) ?_
    refine Go.isub dBk_truck_101 ?_
    refine Go.iret dBk_truck_102 rfl rfl (by decide) ?_
    refine Or.inl ⟨⟨ok1, ok2, ok3, ok4⟩, hlt, ?_, ?_⟩
    · simp only [ma_up]
      simp [hn, nI_1, nI_pred, vI]
      try rw [nI_1, nI_pred]
    · simp only [up_truck]
      simp [ma_up, hn, nI_1]
  · have hnn : n = 12 := by
      rw [hn] at q1
      have h9 : ¬ n < 12 := fun h9 => q1 (nI_lt h9 (by decide))
      omega
    exact Go.thrown dBk_truck_40 dBk_truck_43 dBk_truck_44 dBk_truck_46 dBk_truck_49 twBk_truck_40 rfl (by omega) (Nat.le_of_ble_eq_true rfl) (Or.inr (Or.inl ⟨⟨ok1, ok2, ok3, ok4⟩, hnn, rfl, rfl⟩))
set_option maxHeartbeats 2000000 in
theorem g_Bk_door {sc : Nat × (Nat → Int32)} {d bc bs : Nat} {h : AH} (s : SB h) {n : Nat} (hn : h.1 4 0 4 = nI n) (hle : n ≤ 4) (a b c : Int32) : Go sc true false (d + 9) (bc + 4) (bs + 24) mBk_door 0 [vO 4 0, vI a, vI b, vI c, vU] [] h (rMake (ok_door a b c) n 4 (up_door h.1 n a b c) h) := by
  refine Go.iload_n dBk_door_0 rfl ?_
  refine Go.iconst (v := 1) dBk_door_1 (by decide) ?_
  refine Go.sipush (v := 255) dBk_door_2 (by decide) ?_
  refine Go.callSx mBk_requireRange [vI a, vI 1, vI 255] dBk_door_5 vwBk_52 rfl rfl (Nat.le_of_ble_eq_true rfl) rfl (Nat.le_of_ble_eq_true rfl) rfl (by decide) (g_Bk_requireRange a 1 255) (fun ok1 => ?_) (fun ok1 => Or.inr (Or.inr ⟨fun z => ok1 z.1, rfl, rfl⟩))
  refine Go.iload_n dBk_door_8 rfl ?_
  refine Go.iconst (v := 0) dBk_door_9 (by decide) ?_
  refine Go.sipush (v := 2000) dBk_door_10 (by decide) ?_
  refine Go.callSx mBk_requireRange [vI b, vI 0, vI 2000] dBk_door_13 vwBk_52 rfl rfl (Nat.le_of_ble_eq_true rfl) rfl (Nat.le_of_ble_eq_true rfl) rfl (by decide) (g_Bk_requireRange b 0 2000) (fun ok2 => ?_) (fun ok2 => Or.inr (Or.inr ⟨fun z => ok2 z.2.1, rfl, rfl⟩))
  refine Go.iload_n dBk_door_16 rfl ?_
  refine Go.iload_n dBk_door_17 rfl ?_
  refine Go.iconst (v := 1) dBk_door_18 (by decide) ?_
  refine Go.iadd dBk_door_19 ?_
  refine Go.sipush (v := 2000) dBk_door_20 (by decide) ?_
  refine Go.callSx mBk_requireRange [vI c, vI (b + 1), vI 2000] dBk_door_23 vwBk_52 rfl rfl (Nat.le_of_ble_eq_true rfl) rfl (Nat.le_of_ble_eq_true rfl) rfl (by decide) (g_Bk_requireRange c (b + 1) 2000) (fun ok3 => ?_) (fun ok3 => Or.inr (Or.inr ⟨fun z => ok3 z.2.2, rfl, rfl⟩))
  refine Go.aload_n dBk_door_26 rfl (Nat.ne_of_beq_eq_false rfl) ?_
  refine Go.getI dBk_door_27 flBk_31 (Nat.le_of_ble_eq_true rfl) rfl ?_
  refine Go.iconst (v := 4) dBk_door_30 (by decide) ?_
  refine Go.icmp_lt (tgt := 44) dBk_door_31 (by decide) (fun q1 => ?_) (fun q1 => ?_)
  · refine Go.aload_n dBk_door_44 rfl (Nat.ne_of_beq_eq_false rfl) ?_
    refine Go.getR dBk_door_45 flBk_11 (Nat.le_of_ble_eq_true rfl) rfl s.doors ?_
    refine Go.aload_n dBk_door_48 rfl (Nat.ne_of_beq_eq_false rfl) ?_
    refine Go.getI dBk_door_49 flBk_31 (Nat.le_of_ble_eq_true rfl) rfl ?_
    have hlt : n < 4 := by
      rw [hn] at q1
      exact (nI_ltI (b := 4) (by omega) (by decide)).mp q1
    refine Go.aald dBk_door_52 (by decide) rfl hn (by rw [s.ldoors]; omega) (by omega) (s.door (by omega)) ?_
    refine Go.astore dBk_door_53 (by decide) rfl ?_
    refine Go.aload dBk_door_55 rfl (Nat.ne_of_beq_eq_false rfl) ?_
    refine Go.iload_n dBk_door_57 rfl ?_
    refine Go.putI dBk_door_58 fwBk_door_63 (Nat.le_of_ble_eq_true rfl) rfl ⟨rfl, rfl⟩ ?_
    refine Go.aload dBk_door_61 rfl (Nat.ne_of_beq_eq_false rfl) ?_
    refine Go.iload_n dBk_door_63 rfl ?_
    refine Go.putI dBk_door_64 fwBk_door_66 (Nat.le_of_ble_eq_true rfl) rfl ⟨rfl, rfl⟩ ?_
    refine Go.aload dBk_door_67 rfl (Nat.ne_of_beq_eq_false rfl) ?_
    refine Go.iload_n dBk_door_69 rfl ?_
    refine Go.putI dBk_door_70 fwBk_door_69 (Nat.le_of_ble_eq_true rfl) rfl ⟨rfl, rfl⟩ ?_
    refine Go.aload_n dBk_door_73 rfl (Nat.ne_of_beq_eq_false rfl) ?_
    refine Go.dup trivial dBk_door_74 ?_
    refine Go.getI dBk_door_75 flBk_31 (Nat.le_of_ble_eq_true rfl) rfl ?_
    refine Go.iconst (v := 1) dBk_door_78 (by decide) ?_
    refine Go.iadd dBk_door_79 ?_
    refine Go.putI dBk_door_80 fwBk_door_31 (Nat.le_of_ble_eq_true rfl) rfl ⟨rfl, rfl⟩ ?_
    refine Go.aload_n dBk_door_83 rfl (Nat.ne_of_beq_eq_false rfl) ?_
    refine Go.getI dBk_door_84 flBk_31 (Nat.le_of_ble_eq_true rfl) rfl ?_
    refine Go.iconst (v := 1) dBk_door_87 (by decide) ?_
    refine Go.isub dBk_door_88 ?_
    refine Go.iret dBk_door_89 rfl rfl (by decide) ?_
    refine Or.inl ⟨⟨ok1, ok2, ok3⟩, hlt, ?_, ?_⟩
    · simp only [ma_up]
      simp [hn, nI_1, nI_pred, vI]
      try rw [nI_1, nI_pred]
    · simp only [up_door]
      simp [ma_up, hn, nI_1]
  · have hnn : n = 4 := by
      rw [hn] at q1
      have h9 : ¬ n < 4 := fun h9 => q1 (nI_lt h9 (by decide))
      omega
    exact Go.thrown dBk_door_34 dBk_door_37 dBk_door_38 dBk_door_40 dBk_door_43 twBk_door_34 rfl (by omega) (Nat.le_of_ble_eq_true rfl) (Or.inr (Or.inl ⟨⟨ok1, ok2, ok3⟩, hnn, rfl, rfl⟩))
def rAct (n : Nat) (x : Int32) (h : AH) (P : Nat → GO → AH → Prop) : GO → AH → Prop := fun g h' => (∃ j, j < n ∧ x = nI j ∧ P j g h') ∨ ((x < 0 ∨ nI n ≤ x) ∧ g = .inr 3 ∧ h' = h)
set_option maxHeartbeats 2000000 in
theorem g_Bk_cancel {sc : Nat × (Nat → Int32)} {d bc bs : Nat} {h : AH} (s : SB h) {n : Nat} (hn : h.1 4 0 5 = nI n) (hle : n ≤ 12) (x : Int32) : Go sc true false (d + 9) (bc + 2) (bs + 12) mBk_cancel 0 [vO 4 0, vI x, vU] [] h (rAct n x h (fun j g h' => (h.1 3 j 5 = 0 ∧ g = .inl none ∧ h' = (ma_up (ma_up (ma_up h.1 3 j 5 3) 3 j 6 (-1)) 3 j 7 (-1), h.2)) ∨ (¬ h.1 3 j 5 = 0 ∧ g = .inr 4 ∧ h' = h))) := by
  refine Go.aload_n dBk_cancel_0 rfl (Nat.ne_of_beq_eq_false rfl) ?_
  refine Go.iload_n dBk_cancel_1 rfl ?_
  refine Go.callVj mBk_truckNumbered [vI x] dBk_cancel_2 vwBk_114 (Nat.le_of_ble_eq_true rfl) rfl rfl (Nat.le_of_ble_eq_true rfl) rfl (Nat.le_of_ble_eq_true rfl) rfl (by decide) (g_Bk_truckNumbered s hn hle x) (fun j hj hx => ?_) (fun q => Or.inr ⟨q, rfl, rfl⟩)
  refine Go.astore_n dBk_cancel_5 (by decide) rfl ?_
  refine Go.aload_n dBk_cancel_6 rfl (Nat.ne_of_beq_eq_false rfl) ?_
  refine Go.iconst (v := 0) dBk_cancel_7 (by decide) ?_
  refine Go.callSx mBk_requireState [vO 3 j, vI 0] dBk_cancel_8 vwBk_149 rfl rfl (Nat.le_of_ble_eq_true rfl) rfl (Nat.le_of_ble_eq_true rfl) rfl (by decide) (g_Bk_requireState j 0) (fun ok => ?_) (fun ok => Or.inl ⟨j, hj, hx, Or.inr ⟨ok, rfl, rfl⟩⟩)
  refine Go.aload_n dBk_cancel_11 rfl (Nat.ne_of_beq_eq_false rfl) ?_
  refine Go.iconst (v := 3) dBk_cancel_12 (by decide) ?_
  refine Go.putI dBk_cancel_13 fwBk_cancel_107 (Nat.le_of_ble_eq_true rfl) rfl ⟨rfl, rfl⟩ ?_
  refine Go.aload_n dBk_cancel_16 rfl (Nat.ne_of_beq_eq_false rfl) ?_
  refine Go.iconst (v := (-1)) dBk_cancel_17 (by decide) ?_
  refine Go.iconst (v := (-1)) dBk_cancel_18 (by decide) ?_
  refine Go.callVn mTr_setPlan [vI (-1), vI (-1)] dBk_cancel_19 vwBk_165 (Nat.le_of_ble_eq_true rfl) rfl rfl (Nat.le_of_ble_eq_true rfl) rfl (Nat.le_of_ble_eq_true rfl) (g_Tr_setPlan j (-1) (-1)) ?_
  refine Go.vret dBk_cancel_22 rfl (by decide) ?_
  exact Or.inl ⟨j, hj, hx, Or.inl ⟨ok, rfl, rfl⟩⟩
def sp_told (m : Nat → Nat → Nat → Int32) (j : Nat) (w : Int32) : Int32 := if w = 0 then m 3 j 5 else if w = 1 then m 3 j 6 else if w = 2 then m 3 j 7 else if w = 3 then m 3 j 2 else if w = 4 then m 3 j 3 else if w = 5 then m 3 j 4 else if w = 6 then m 3 j 1 else if m 3 j 13 = -1 then -1 else m 3 j 13 - m 3 j 2
set_option maxHeartbeats 2000000 in
theorem g_Bk_told {sc : Nat × (Nat → Int32)} {d bc bs : Nat} {h : AH} (s : SB h) {n : Nat} (hn : h.1 4 0 5 = nI n) (hle : n ≤ 12) (x v : Int32) : Go sc true true (d + 9) (bc + 2) (bs + 12) mBk_told 0 [vO 4 0, vI x, vI v, vU] [] h (rAct n x h (fun j g h' => h' = h ∧ (((0 ≤ v.toInt ∧ v.toInt ≤ 7) ∧ g = .inl (some (vI (sp_told h.1 j v)))) ∨ (¬ (0 ≤ v.toInt ∧ v.toInt ≤ 7) ∧ g = .inr 1)))) := by
  refine Go.aload_n dBk_told_0 rfl (Nat.ne_of_beq_eq_false rfl) ?_
  refine Go.iload_n dBk_told_1 rfl ?_
  refine Go.callVj mBk_truckNumbered [vI x] dBk_told_2 vwBk_114 (Nat.le_of_ble_eq_true rfl) rfl rfl (Nat.le_of_ble_eq_true rfl) rfl (Nat.le_of_ble_eq_true rfl) rfl (by decide) (g_Bk_truckNumbered s hn hle x) (fun j hj hx => ?_) (fun q => Or.inr ⟨q, rfl, rfl⟩)
  refine Go.astore_n dBk_told_5 (by decide) rfl ?_
  refine Go.iload_n dBk_told_6 rfl ?_
  rcases sw8 v with qs | rfl | rfl | rfl | rfl | rfl | rfl | rfl | rfl
  · refine Go.tabOut (tgt := 109) dBk_told_7 qs (by decide) ?_
    exact Go.thrown dBk_told_109 dBk_told_112 dBk_told_113 dBk_told_115 dBk_told_118 twBk_told_109 rfl (by omega) (Nat.le_of_ble_eq_true rfl) (Or.inl ⟨j, hj, hx, rfl, Or.inr ⟨by omega, rfl⟩⟩)
  · refine Go.tabIn (off := 45) (tgt := 52) dBk_told_7 (by decide) (by decide) rfl (by decide) ?_
    refine Go.aload_n dBk_told_52 rfl (Nat.ne_of_beq_eq_false rfl) ?_
    refine Go.getI dBk_told_53 flBk_107 (Nat.le_of_ble_eq_true rfl) rfl ?_
    refine Go.iret dBk_told_56 rfl rfl (by decide) ?_
    refine Or.inl ⟨j, hj, hx, rfl, Or.inl ⟨by decide, ?_⟩⟩
    first
      | rfl
      | (simp [sp_told, q1]; done)
      | (unfold sp_told; simp_all)
  · refine Go.tabIn (off := 50) (tgt := 57) dBk_told_7 (by decide) (by decide) rfl (by decide) ?_
    refine Go.aload_n dBk_told_57 rfl (Nat.ne_of_beq_eq_false rfl) ?_
    refine Go.getI dBk_told_58 flBk_127 (Nat.le_of_ble_eq_true rfl) rfl ?_
    refine Go.iret dBk_told_61 rfl rfl (by decide) ?_
    refine Or.inl ⟨j, hj, hx, rfl, Or.inl ⟨by decide, ?_⟩⟩
    first
      | rfl
      | (simp [sp_told, q1]; done)
      | (unfold sp_told; simp_all)
  · refine Go.tabIn (off := 55) (tgt := 62) dBk_told_7 (by decide) (by decide) rfl (by decide) ?_
    refine Go.aload_n dBk_told_62 rfl (Nat.ne_of_beq_eq_false rfl) ?_
    refine Go.getI dBk_told_63 flBk_134 (Nat.le_of_ble_eq_true rfl) rfl ?_
    refine Go.iret dBk_told_66 rfl rfl (by decide) ?_
    refine Or.inl ⟨j, hj, hx, rfl, Or.inl ⟨by decide, ?_⟩⟩
    first
      | rfl
      | (simp [sp_told, q1]; done)
      | (unfold sp_told; simp_all)
  · refine Go.tabIn (off := 60) (tgt := 67) dBk_told_7 (by decide) (by decide) rfl (by decide) ?_
    refine Go.aload_n dBk_told_67 rfl (Nat.ne_of_beq_eq_false rfl) ?_
    refine Go.getI dBk_told_68 flBk_77 (Nat.le_of_ble_eq_true rfl) rfl ?_
    refine Go.iret dBk_told_71 rfl rfl (by decide) ?_
    refine Or.inl ⟨j, hj, hx, rfl, Or.inl ⟨by decide, ?_⟩⟩
    first
      | rfl
      | (simp [sp_told, q1]; done)
      | (unfold sp_told; simp_all)
  · refine Go.tabIn (off := 65) (tgt := 72) dBk_told_7 (by decide) (by decide) rfl (by decide) ?_
    refine Go.aload_n dBk_told_72 rfl (Nat.ne_of_beq_eq_false rfl) ?_
    refine Go.getI dBk_told_73 flBk_80 (Nat.le_of_ble_eq_true rfl) rfl ?_
    refine Go.iret dBk_told_76 rfl rfl (by decide) ?_
    refine Or.inl ⟨j, hj, hx, rfl, Or.inl ⟨by decide, ?_⟩⟩
    first
      | rfl
      | (simp [sp_told, q1]; done)
      | (unfold sp_told; simp_all)
  · refine Go.tabIn (off := 70) (tgt := 77) dBk_told_7 (by decide) (by decide) rfl (by decide) ?_
    refine Go.aload_n dBk_told_77 rfl (Nat.ne_of_beq_eq_false rfl) ?_
    refine Go.getI dBk_told_78 flBk_83 (Nat.le_of_ble_eq_true rfl) rfl ?_
    refine Go.iret dBk_told_81 rfl rfl (by decide) ?_
    refine Or.inl ⟨j, hj, hx, rfl, Or.inl ⟨by decide, ?_⟩⟩
    first
      | rfl
      | (simp [sp_told, q1]; done)
      | (unfold sp_told; simp_all)
  · refine Go.tabIn (off := 75) (tgt := 82) dBk_told_7 (by decide) (by decide) rfl (by decide) ?_
    refine Go.aload_n dBk_told_82 rfl (Nat.ne_of_beq_eq_false rfl) ?_
    refine Go.getI dBk_told_83 flBk_74 (Nat.le_of_ble_eq_true rfl) rfl ?_
    refine Go.iret dBk_told_86 rfl rfl (by decide) ?_
    refine Or.inl ⟨j, hj, hx, rfl, Or.inl ⟨by decide, ?_⟩⟩
    first
      | rfl
      | (simp [sp_told, q1]; done)
      | (unfold sp_told; simp_all)
  · refine Go.tabIn (off := 80) (tgt := 87) dBk_told_7 (by decide) (by decide) rfl (by decide) ?_
    refine Go.aload_n dBk_told_87 rfl (Nat.ne_of_beq_eq_false rfl) ?_
    refine Go.getI dBk_told_88 flBk_159 (Nat.le_of_ble_eq_true rfl) rfl ?_
    refine Go.iconst (v := (-1)) dBk_told_91 (by decide) ?_
    refine Go.icmp_ne (tgt := 99) dBk_told_92 (by decide) (fun q1 => ?_) (fun q1 => ?_)
    · refine Go.aload_n dBk_told_99 rfl (Nat.ne_of_beq_eq_false rfl) ?_
      refine Go.getI dBk_told_100 flBk_159 (Nat.le_of_ble_eq_true rfl) rfl ?_
      refine Go.aload_n dBk_told_103 rfl (Nat.ne_of_beq_eq_false rfl) ?_
      refine Go.getI dBk_told_104 flBk_77 (Nat.le_of_ble_eq_true rfl) rfl ?_
      refine Go.isub dBk_told_107 ?_
      refine Go.iret dBk_told_108 rfl rfl (by decide) ?_
      refine Or.inl ⟨j, hj, hx, rfl, Or.inl ⟨by decide, ?_⟩⟩
      first
        | rfl
        | (simp [sp_told, q1]; done)
        | (unfold sp_told; simp_all)
    · refine Go.iconst (v := (-1)) dBk_told_95 (by decide) ?_
      refine Go.goto (tgt := 108) dBk_told_96 (by decide) ?_
      refine Go.iret dBk_told_108 rfl rfl (by decide) ?_
      refine Or.inl ⟨j, hj, hx, rfl, Or.inl ⟨by decide, ?_⟩⟩
      first
        | rfl
        | (simp [sp_told, q1]; done)
        | (unfold sp_told; simp_all)
end
section
/-! SEALS, LOADS, LATE ONES; WHAT IS KNOWN; COSTS -/
def sp_sealV (m : Nat → Nat → Nat → Int32) (j : Nat) (x : Int32) : Int32 := if m 3 j 10 = -1 then 0 else if m 3 j 10 = x then 1 else 2
def sp_sealM (m : Nat → Nat → Nat → Int32) (j : Nat) (x : Int32) : Nat → Nat → Nat → Int32 := if m 3 j 10 = -1 then ma_up m 3 j 10 x else if m 3 j 10 = x then ma_up m 3 j 11 1 else ma_up (ma_up m 3 j 11 0) 3 j 10 (-1)
set_option maxHeartbeats 2000000 in
theorem g_Tr_tellSeal {sc : Nat × (Nat → Int32)} {d bc bs : Nat} {h : AH} (j : Nat) (x : Int32) : Go sc true false d bc bs mTr_tellSeal 0 [vO 3 j, vI x] [] h (rV (sp_sealV h.1 j x) (sp_sealM h.1 j x, h.2)) := by
  refine Go.aload_n dTr_tellSeal_0 rfl (Nat.ne_of_beq_eq_false rfl) ?_
  refine Go.getI dTr_tellSeal_1 flTr_39 (Nat.le_of_ble_eq_true rfl) rfl ?_
  refine Go.iconst (v := (-1)) dTr_tellSeal_4 (by decide) ?_
  refine Go.icmp_ne (tgt := 15) dTr_tellSeal_5 (by decide) (fun q1 => ?_) (fun q1 => ?_)
  · refine Go.aload_n dTr_tellSeal_15 rfl (Nat.ne_of_beq_eq_false rfl) ?_
    refine Go.aload_n dTr_tellSeal_16 rfl (Nat.ne_of_beq_eq_false rfl) ?_
    refine Go.getI dTr_tellSeal_17 flTr_39 (Nat.le_of_ble_eq_true rfl) rfl ?_
    refine Go.iload_n dTr_tellSeal_20 rfl ?_
    refine Go.icmp_ne (tgt := 28) dTr_tellSeal_21 (by decide) (fun q2 => ?_) (fun q2 => ?_)
    · refine Go.iconst (v := 0) dTr_tellSeal_28 (by decide) ?_
      refine Go.putI dTr_tellSeal_29 fwTr_tellSeal_42 (Nat.le_of_ble_eq_true rfl) rfl ⟨rfl, rfl⟩ ?_
      refine Go.aload_n dTr_tellSeal_32 rfl (Nat.ne_of_beq_eq_false rfl) ?_
      refine Go.getI dTr_tellSeal_33 flTr_42 (Nat.le_of_ble_eq_true rfl) rfl ?_
      refine Go.if_eq (tgt := 41) dTr_tellSeal_36 (by decide) (fun q3 => ?_) (fun q3 => ?_)
      · refine Go.aload_n dTr_tellSeal_41 rfl (Nat.ne_of_beq_eq_false rfl) ?_
        refine Go.iconst (v := (-1)) dTr_tellSeal_42 (by decide) ?_
        refine Go.putI dTr_tellSeal_43 fwTr_tellSeal_39 (Nat.le_of_ble_eq_true rfl) rfl ⟨rfl, rfl⟩ ?_
        refine Go.iconst (v := 2) dTr_tellSeal_46 (by decide) ?_
        refine Go.iret dTr_tellSeal_47 rfl rfl (by decide) ?_
        first
          | (exfalso; simp [ma_up] at q3; done)
          | (exfalso; simp [ma_up] at q4; done)
          | (refine ⟨?_, ?_⟩
             · unfold sp_sealV; simp_all
             · unfold sp_sealM; simp_all)
      · refine Go.iconst (v := 1) dTr_tellSeal_39 (by decide) ?_
        refine Go.iret dTr_tellSeal_40 rfl rfl (by decide) ?_
        first
          | (exfalso; simp [ma_up] at q3; done)
          | (exfalso; simp [ma_up] at q4; done)
          | (refine ⟨?_, ?_⟩
             · unfold sp_sealV; simp_all
             · unfold sp_sealM; simp_all)
    · refine Go.iconst (v := 1) dTr_tellSeal_24 (by decide) ?_
      refine Go.goto (tgt := 29) dTr_tellSeal_25 (by decide) ?_
      refine Go.putI dTr_tellSeal_29 fwTr_tellSeal_42 (Nat.le_of_ble_eq_true rfl) rfl ⟨rfl, rfl⟩ ?_
      refine Go.aload_n dTr_tellSeal_32 rfl (Nat.ne_of_beq_eq_false rfl) ?_
      refine Go.getI dTr_tellSeal_33 flTr_42 (Nat.le_of_ble_eq_true rfl) rfl ?_
      refine Go.if_eq (tgt := 41) dTr_tellSeal_36 (by decide) (fun q4 => ?_) (fun q4 => ?_)
      · refine Go.aload_n dTr_tellSeal_41 rfl (Nat.ne_of_beq_eq_false rfl) ?_
        refine Go.iconst (v := (-1)) dTr_tellSeal_42 (by decide) ?_
        refine Go.putI dTr_tellSeal_43 fwTr_tellSeal_39 (Nat.le_of_ble_eq_true rfl) rfl ⟨rfl, rfl⟩ ?_
        refine Go.iconst (v := 2) dTr_tellSeal_46 (by decide) ?_
        refine Go.iret dTr_tellSeal_47 rfl rfl (by decide) ?_
        first
          | (exfalso; simp [ma_up] at q3; done)
          | (exfalso; simp [ma_up] at q4; done)
          | (refine ⟨?_, ?_⟩
             · unfold sp_sealV; simp_all
             · unfold sp_sealM; simp_all)
      · refine Go.iconst (v := 1) dTr_tellSeal_39 (by decide) ?_
        refine Go.iret dTr_tellSeal_40 rfl rfl (by decide) ?_
        first
          | (exfalso; simp [ma_up] at q3; done)
          | (exfalso; simp [ma_up] at q4; done)
          | (refine ⟨?_, ?_⟩
             · unfold sp_sealV; simp_all
             · unfold sp_sealM; simp_all)
  · refine Go.aload_n dTr_tellSeal_8 rfl (Nat.ne_of_beq_eq_false rfl) ?_
    refine Go.iload_n dTr_tellSeal_9 rfl ?_
    refine Go.putI dTr_tellSeal_10 fwTr_tellSeal_39 (Nat.le_of_ble_eq_true rfl) rfl ⟨rfl, rfl⟩ ?_
    refine Go.iconst (v := 0) dTr_tellSeal_13 (by decide) ?_
    refine Go.iret dTr_tellSeal_14 rfl rfl (by decide) ?_
    first
      | (exfalso; simp [ma_up] at q3; done)
      | (exfalso; simp [ma_up] at q4; done)
      | (refine ⟨?_, ?_⟩
         · unfold sp_sealV; simp_all
         · unfold sp_sealM; simp_all)
set_option maxHeartbeats 2000000 in
theorem g_Bk_seal {sc : Nat × (Nat → Int32)} {d bc bs : Nat} {h : AH} (s : SB h) {n : Nat} (hn : h.1 4 0 5 = nI n) (hle : n ≤ 12) (x v : Int32) : Go sc true false (d + 9) (bc + 3) (bs + 18) mBk_seal 0 [vO 4 0, vI x, vI v, vU] [] h (rAct n x h (fun j g h' => ((0 ≤ v ∧ v ≤ 9999) ∧ (h.1 3 j 5 = 0 ∨ h.1 3 j 5 = 1) ∧ g = .inl (some (vI (sp_sealV h.1 j v))) ∧ h' = (sp_sealM h.1 j v, h.2)) ∨ ((0 ≤ v ∧ v ≤ 9999) ∧ ¬ (h.1 3 j 5 = 0 ∨ h.1 3 j 5 = 1) ∧ g = .inr 4 ∧ h' = h) ∨ (¬ (0 ≤ v ∧ v ≤ 9999) ∧ g = .inr 1 ∧ h' = h))) := by
  refine Go.aload_n dBk_seal_0 rfl (Nat.ne_of_beq_eq_false rfl) ?_
  refine Go.iload_n dBk_seal_1 rfl ?_
  refine Go.callVj mBk_truckNumbered [vI x] dBk_seal_2 vwBk_114 (Nat.le_of_ble_eq_true rfl) rfl rfl (Nat.le_of_ble_eq_true rfl) rfl (Nat.le_of_ble_eq_true rfl) rfl (by decide) (g_Bk_truckNumbered s hn hle x) (fun j hj hx => ?_) (fun q => Or.inr ⟨q, rfl, rfl⟩)
  refine Go.astore_n dBk_seal_5 (by decide) rfl ?_
  refine Go.iload_n dBk_seal_6 rfl ?_
  refine Go.iconst (v := 0) dBk_seal_7 (by decide) ?_
  refine Go.sipush (v := 9999) dBk_seal_8 (by decide) ?_
  refine Go.callSx mBk_requireRange [vI v, vI 0, vI 9999] dBk_seal_11 vwBk_52 rfl rfl (Nat.le_of_ble_eq_true rfl) rfl (Nat.le_of_ble_eq_true rfl) rfl (by decide) (g_Bk_requireRange v 0 9999) (fun ok => ?_) (fun ok => Or.inl ⟨j, hj, hx, Or.inr (Or.inr ⟨ok, rfl, rfl⟩)⟩)
  refine Go.aload_n dBk_seal_14 rfl (Nat.ne_of_beq_eq_false rfl) ?_
  refine Go.getI dBk_seal_15 flBk_107 (Nat.le_of_ble_eq_true rfl) rfl ?_
  refine Go.if_eq (tgt := 39) dBk_seal_18 (by decide) (fun q1 => ?_) (fun q1 => ?_)
  · refine Go.aload_n dBk_seal_39 rfl (Nat.ne_of_beq_eq_false rfl) ?_
    refine Go.iload_n dBk_seal_40 rfl ?_
    refine Go.callVw mTr_tellSeal [vI v] dBk_seal_41 vwBk_145 (Nat.le_of_ble_eq_true rfl) rfl rfl (Nat.le_of_ble_eq_true rfl) rfl (Nat.le_of_ble_eq_true rfl) (g_Tr_tellSeal j v) ?_
    refine Go.iret dBk_seal_44 rfl rfl (by decide) ?_
    first
      | exact Or.inl ⟨j, hj, hx, Or.inl ⟨ok, Or.inl q1, rfl, rfl⟩⟩
      | exact Or.inl ⟨j, hj, hx, Or.inl ⟨ok, Or.inr q2, rfl, rfl⟩⟩
  · refine Go.aload_n dBk_seal_21 rfl (Nat.ne_of_beq_eq_false rfl) ?_
    refine Go.getI dBk_seal_22 flBk_107 (Nat.le_of_ble_eq_true rfl) rfl ?_
    refine Go.iconst (v := 1) dBk_seal_25 (by decide) ?_
    refine Go.icmp_eq (tgt := 39) dBk_seal_26 (by decide) (fun q2 => ?_) (fun q2 => ?_)
    · refine Go.aload_n dBk_seal_39 rfl (Nat.ne_of_beq_eq_false rfl) ?_
      refine Go.iload_n dBk_seal_40 rfl ?_
      refine Go.callVw mTr_tellSeal [vI v] dBk_seal_41 vwBk_145 (Nat.le_of_ble_eq_true rfl) rfl rfl (Nat.le_of_ble_eq_true rfl) rfl (Nat.le_of_ble_eq_true rfl) (g_Tr_tellSeal j v) ?_
      refine Go.iret dBk_seal_44 rfl rfl (by decide) ?_
      first
        | exact Or.inl ⟨j, hj, hx, Or.inl ⟨ok, Or.inl q1, rfl, rfl⟩⟩
        | exact Or.inl ⟨j, hj, hx, Or.inl ⟨ok, Or.inr q2, rfl, rfl⟩⟩
    · exact Go.thrown dBk_seal_29 dBk_seal_32 dBk_seal_33 dBk_seal_35 dBk_seal_38 twBk_seal_29 rfl (by omega) (Nat.le_of_ble_eq_true rfl) (Or.inl ⟨j, hj, hx, Or.inr (Or.inl ⟨ok, fun z => z.elim q1 q2, rfl, rfl⟩)⟩)
set_option maxHeartbeats 2000000 in
theorem g_Bk_load {sc : Nat × (Nat → Int32)} {d bc bs : Nat} {h : AH} (s : SB h) {n : Nat} (hn : h.1 4 0 5 = nI n) (hle : n ≤ 12) (x a b : Int32) : Go sc true false (d + 9) (bc + 4) (bs + 24) mBk_load 0 [vO 4 0, vI x, vI a, vI b, vU] [] h (rAct n x h (fun j g h' => (((0 ≤ a ∧ a ≤ 10000) ∧ (0 ≤ b ∧ b ≤ 10000)) ∧ h.1 3 j 5 = 1 ∧ g = .inl (some (vI (if a = b then 1 else 0))) ∧ h' = (ma_up h.1 3 j 12 (if a = b then 1 else 0), h.2)) ∨ (((0 ≤ a ∧ a ≤ 10000) ∧ (0 ≤ b ∧ b ≤ 10000)) ∧ ¬ h.1 3 j 5 = 1 ∧ g = .inr 4 ∧ h' = h) ∨ (¬ ((0 ≤ a ∧ a ≤ 10000) ∧ (0 ≤ b ∧ b ≤ 10000)) ∧ g = .inr 1 ∧ h' = h))) := by
  refine Go.aload_n dBk_load_0 rfl (Nat.ne_of_beq_eq_false rfl) ?_
  refine Go.iload_n dBk_load_1 rfl ?_
  refine Go.callVj mBk_truckNumbered [vI x] dBk_load_2 vwBk_114 (Nat.le_of_ble_eq_true rfl) rfl rfl (Nat.le_of_ble_eq_true rfl) rfl (Nat.le_of_ble_eq_true rfl) rfl (by decide) (g_Bk_truckNumbered s hn hle x) (fun j hj hx => ?_) (fun q => Or.inr ⟨q, rfl, rfl⟩)
  refine Go.astore dBk_load_5 (by decide) rfl ?_
  refine Go.iload_n dBk_load_7 rfl ?_
  refine Go.iconst (v := 0) dBk_load_8 (by decide) ?_
  refine Go.sipush (v := 10000) dBk_load_9 (by decide) ?_
  refine Go.callSx mBk_requireRange [vI a, vI 0, vI 10000] dBk_load_12 vwBk_52 rfl rfl (Nat.le_of_ble_eq_true rfl) rfl (Nat.le_of_ble_eq_true rfl) rfl (by decide) (g_Bk_requireRange a 0 10000) (fun ok1 => ?_) (fun ok1 => Or.inl ⟨j, hj, hx, Or.inr (Or.inr ⟨fun z => ok1 z.1, rfl, rfl⟩)⟩)
  refine Go.iload_n dBk_load_15 rfl ?_
  refine Go.iconst (v := 0) dBk_load_16 (by decide) ?_
  refine Go.sipush (v := 10000) dBk_load_17 (by decide) ?_
  refine Go.callSx mBk_requireRange [vI b, vI 0, vI 10000] dBk_load_20 vwBk_52 rfl rfl (Nat.le_of_ble_eq_true rfl) rfl (Nat.le_of_ble_eq_true rfl) rfl (by decide) (g_Bk_requireRange b 0 10000) (fun ok2 => ?_) (fun ok2 => Or.inl ⟨j, hj, hx, Or.inr (Or.inr ⟨fun z => ok2 z.2, rfl, rfl⟩)⟩)
  refine Go.aload dBk_load_23 rfl (Nat.ne_of_beq_eq_false rfl) ?_
  refine Go.iconst (v := 1) dBk_load_25 (by decide) ?_
  refine Go.callSx mBk_requireState [vO 3 j, vI 1] dBk_load_26 vwBk_149 rfl rfl (Nat.le_of_ble_eq_true rfl) rfl (Nat.le_of_ble_eq_true rfl) rfl (by decide) (g_Bk_requireState j 1) (fun ok3 => ?_) (fun ok3 => Or.inl ⟨j, hj, hx, Or.inr (Or.inl ⟨⟨ok1, ok2⟩, ok3, rfl, rfl⟩)⟩)
  refine Go.aload dBk_load_29 rfl (Nat.ne_of_beq_eq_false rfl) ?_
  refine Go.iload_n dBk_load_31 rfl ?_
  refine Go.iload_n dBk_load_32 rfl ?_
  refine Go.icmp_ne (tgt := 40) dBk_load_33 (by decide) (fun q1 => ?_) (fun q1 => ?_)
  · refine Go.iconst (v := 0) dBk_load_40 (by decide) ?_
    refine Go.putI dBk_load_41 fwBk_load_153 (Nat.le_of_ble_eq_true rfl) rfl ⟨rfl, rfl⟩ ?_
    refine Go.aload dBk_load_44 rfl (Nat.ne_of_beq_eq_false rfl) ?_
    refine Go.getI dBk_load_46 flBk_153 (Nat.le_of_ble_eq_true rfl) rfl ?_
    refine Go.iret dBk_load_49 rfl (by simp [ma_up]; rfl) (by decide) ?_
    refine Or.inl ⟨j, hj, hx, Or.inl ⟨⟨ok1, ok2⟩, ok3, ?_, ?_⟩⟩ <;> simp_all [ma_up]
  · refine Go.iconst (v := 1) dBk_load_36 (by decide) ?_
    refine Go.goto (tgt := 41) dBk_load_37 (by decide) ?_
    refine Go.putI dBk_load_41 fwBk_load_153 (Nat.le_of_ble_eq_true rfl) rfl ⟨rfl, rfl⟩ ?_
    refine Go.aload dBk_load_44 rfl (Nat.ne_of_beq_eq_false rfl) ?_
    refine Go.getI dBk_load_46 flBk_153 (Nat.le_of_ble_eq_true rfl) rfl ?_
    refine Go.iret dBk_load_49 rfl (by simp [ma_up]; rfl) (by decide) ?_
    refine Or.inl ⟨j, hj, hx, Or.inl ⟨⟨ok1, ok2⟩, ok3, ?_, ?_⟩⟩ <;> simp_all [ma_up]
def up_late (m : Nat → Nat → Nat → Int32) (j : Nat) (v : Int32) : Nat → Nat → Nat → Int32 := if v ≤ m 3 j 7 then ma_up m 3 j 2 v else ma_up (ma_up (ma_up m 3 j 2 v) 3 j 6 (-1)) 3 j 7 (-1)
set_option maxHeartbeats 2000000 in
theorem g_Bk_late {sc : Nat × (Nat → Int32)} {d bc bs : Nat} {h : AH} (s : SB h) {n : Nat} (hn : h.1 4 0 5 = nI n) (hle : n ≤ 12) (x v : Int32) : Go sc true false (d + 9) (bc + 3) (bs + 18) mBk_late 0 [vO 4 0, vI x, vI v, vU, vU] [] h (rAct n x h (fun j g h' => ((0 ≤ v ∧ v ≤ 2000) ∧ h.1 3 j 5 = 0 ∧ g = .inl (some (vI (if h.1 3 j 6 = -1 then 0 else 1))) ∧ h' = (up_late h.1 j v, h.2)) ∨ ((0 ≤ v ∧ v ≤ 2000) ∧ ¬ h.1 3 j 5 = 0 ∧ g = .inr 4 ∧ h' = h) ∨ (¬ (0 ≤ v ∧ v ≤ 2000) ∧ g = .inr 1 ∧ h' = h))) := by
  refine Go.aload_n dBk_late_0 rfl (Nat.ne_of_beq_eq_false rfl) ?_
  refine Go.iload_n dBk_late_1 rfl ?_
  refine Go.callVj mBk_truckNumbered [vI x] dBk_late_2 vwBk_114 (Nat.le_of_ble_eq_true rfl) rfl rfl (Nat.le_of_ble_eq_true rfl) rfl (Nat.le_of_ble_eq_true rfl) rfl (by decide) (g_Bk_truckNumbered s hn hle x) (fun j hj hx => ?_) (fun q => Or.inr ⟨q, rfl, rfl⟩)
  refine Go.astore_n dBk_late_5 (by decide) rfl ?_
  refine Go.iload_n dBk_late_6 rfl ?_
  refine Go.iconst (v := 0) dBk_late_7 (by decide) ?_
  refine Go.sipush (v := 2000) dBk_late_8 (by decide) ?_
  refine Go.callSx mBk_requireRange [vI v, vI 0, vI 2000] dBk_late_11 vwBk_52 rfl rfl (Nat.le_of_ble_eq_true rfl) rfl (Nat.le_of_ble_eq_true rfl) rfl (by decide) (g_Bk_requireRange v 0 2000) (fun ok1 => ?_) (fun ok1 => Or.inl ⟨j, hj, hx, Or.inr (Or.inr ⟨ok1, rfl, rfl⟩)⟩)
  refine Go.aload_n dBk_late_14 rfl (Nat.ne_of_beq_eq_false rfl) ?_
  refine Go.iconst (v := 0) dBk_late_15 (by decide) ?_
  refine Go.callSx mBk_requireState [vO 3 j, vI 0] dBk_late_16 vwBk_149 rfl rfl (Nat.le_of_ble_eq_true rfl) rfl (Nat.le_of_ble_eq_true rfl) rfl (by decide) (g_Bk_requireState j 0) (fun ok2 => ?_) (fun ok2 => Or.inl ⟨j, hj, hx, Or.inr (Or.inl ⟨ok1, ok2, rfl, rfl⟩)⟩)
  refine Go.aload_n dBk_late_19 rfl (Nat.ne_of_beq_eq_false rfl) ?_
  refine Go.getI dBk_late_20 flBk_127 (Nat.le_of_ble_eq_true rfl) rfl ?_
  refine Go.iconst (v := (-1)) dBk_late_23 (by decide) ?_
  refine Go.icmp_eq (tgt := 31) dBk_late_24 (by decide) (fun q1 => ?_) (fun q1 => ?_)
  · refine Go.iconst (v := 0) dBk_late_31 (by decide) ?_
    refine Go.istore dBk_late_32 (by decide) rfl ?_
    refine Go.aload_n dBk_late_34 rfl (Nat.ne_of_beq_eq_false rfl) ?_
    refine Go.iload_n dBk_late_35 rfl ?_
    refine Go.putI dBk_late_36 fwBk_late_77 (Nat.le_of_ble_eq_true rfl) rfl ⟨rfl, rfl⟩ ?_
    refine Go.aload_n dBk_late_39 rfl (Nat.ne_of_beq_eq_false rfl) ?_
    refine Go.getI dBk_late_40 flBk_134 (Nat.le_of_ble_eq_true rfl) rfl ?_
    refine Go.iload_n dBk_late_43 rfl ?_
    refine Go.icmp_ge (tgt := 53) dBk_late_44 (by decide) (fun q2 => ?_) (fun q2 => ?_)
    · refine Go.iload dBk_late_53 rfl ?_
      refine Go.iret dBk_late_55 rfl rfl (by decide) ?_
      refine Or.inl ⟨j, hj, hx, Or.inl ⟨ok1, ok2, ?_, ?_⟩⟩
      · simp_all
      · unfold up_late
        first
          | (rw [if_pos (by simpa [ma_up] using q2)]; done)
          | (rw [if_pos (by simpa [ma_up] using q3)]; done)
          | (rw [if_neg (fun h9 => q2 (by simpa [ma_up] using h9))]; done)
          | (rw [if_neg (fun h9 => q3 (by simpa [ma_up] using h9))]; done)
    · refine Go.aload_n dBk_late_47 rfl (Nat.ne_of_beq_eq_false rfl) ?_
      refine Go.iconst (v := (-1)) dBk_late_48 (by decide) ?_
      refine Go.iconst (v := (-1)) dBk_late_49 (by decide) ?_
      refine Go.callVn mTr_setPlan [vI (-1), vI (-1)] dBk_late_50 vwBk_165 (Nat.le_of_ble_eq_true rfl) rfl rfl (Nat.le_of_ble_eq_true rfl) rfl (Nat.le_of_ble_eq_true rfl) (g_Tr_setPlan j (-1) (-1)) ?_
      refine Go.iload dBk_late_53 rfl ?_
      refine Go.iret dBk_late_55 rfl rfl (by decide) ?_
      refine Or.inl ⟨j, hj, hx, Or.inl ⟨ok1, ok2, ?_, ?_⟩⟩
      · simp_all
      · unfold up_late
        first
          | (rw [if_pos (by simpa [ma_up] using q2)]; done)
          | (rw [if_pos (by simpa [ma_up] using q3)]; done)
          | (rw [if_neg (fun h9 => q2 (by simpa [ma_up] using h9))]; done)
          | (rw [if_neg (fun h9 => q3 (by simpa [ma_up] using h9))]; done)
  · refine Go.iconst (v := 1) dBk_late_27 (by decide) ?_
    refine Go.goto (tgt := 32) dBk_late_28 (by decide) ?_
    refine Go.istore dBk_late_32 (by decide) rfl ?_
    refine Go.aload_n dBk_late_34 rfl (Nat.ne_of_beq_eq_false rfl) ?_
    refine Go.iload_n dBk_late_35 rfl ?_
    refine Go.putI dBk_late_36 fwBk_late_77 (Nat.le_of_ble_eq_true rfl) rfl ⟨rfl, rfl⟩ ?_
    refine Go.aload_n dBk_late_39 rfl (Nat.ne_of_beq_eq_false rfl) ?_
    refine Go.getI dBk_late_40 flBk_134 (Nat.le_of_ble_eq_true rfl) rfl ?_
    refine Go.iload_n dBk_late_43 rfl ?_
    refine Go.icmp_ge (tgt := 53) dBk_late_44 (by decide) (fun q3 => ?_) (fun q3 => ?_)
    · refine Go.iload dBk_late_53 rfl ?_
      refine Go.iret dBk_late_55 rfl rfl (by decide) ?_
      refine Or.inl ⟨j, hj, hx, Or.inl ⟨ok1, ok2, ?_, ?_⟩⟩
      · simp_all
      · unfold up_late
        first
          | (rw [if_pos (by simpa [ma_up] using q2)]; done)
          | (rw [if_pos (by simpa [ma_up] using q3)]; done)
          | (rw [if_neg (fun h9 => q2 (by simpa [ma_up] using h9))]; done)
          | (rw [if_neg (fun h9 => q3 (by simpa [ma_up] using h9))]; done)
    · refine Go.aload_n dBk_late_47 rfl (Nat.ne_of_beq_eq_false rfl) ?_
      refine Go.iconst (v := (-1)) dBk_late_48 (by decide) ?_
      refine Go.iconst (v := (-1)) dBk_late_49 (by decide) ?_
      refine Go.callVn mTr_setPlan [vI (-1), vI (-1)] dBk_late_50 vwBk_165 (Nat.le_of_ble_eq_true rfl) rfl rfl (Nat.le_of_ble_eq_true rfl) rfl (Nat.le_of_ble_eq_true rfl) (g_Tr_setPlan j (-1) (-1)) ?_
      refine Go.iload dBk_late_53 rfl ?_
      refine Go.iret dBk_late_55 rfl rfl (by decide) ?_
      refine Or.inl ⟨j, hj, hx, Or.inl ⟨ok1, ok2, ?_, ?_⟩⟩
      · simp_all
      · unfold up_late
        first
          | (rw [if_pos (by simpa [ma_up] using q2)]; done)
          | (rw [if_pos (by simpa [ma_up] using q3)]; done)
          | (rw [if_neg (fun h9 => q2 (by simpa [ma_up] using h9))]; done)
          | (rw [if_neg (fun h9 => q3 (by simpa [ma_up] using h9))]; done)
def sp_alone (m : Nat → Nat → Nat → Int32) (j : Nat) : Nat → Int32
  | 0 => 5000
  | i + 1 => mn (sp_alone m j i) (sp_cost m j (sp_start m i j (sp_ready m i (m 4 0 6))))
set_option maxHeartbeats 2000000 in
theorem l_Bk_costAlone {sc : Nat × (Nat → Int32)} {d bc bs : Nat} {h : AH} (s : SB h) {n : Nat} (hn : h.1 4 0 4 = nI n) (hle : n ≤ 4) (j : Nat) (z : AV) : ∀ k i, i + k = n → ∀ z : AV, Go sc true true (d + 2) bc bs mBk_costAlone 6 [vO 4 0, vO 3 j, vI (sp_alone h.1 j i), vI (nI i), z] [] h (rV (sp_alone h.1 j n) h)
  | k, i, hik, z => by
    refine Go.iload_n dBk_costAlone_6 rfl ?_
    refine Go.aload_n dBk_costAlone_7 rfl (Nat.ne_of_beq_eq_false rfl) ?_
    refine Go.getI dBk_costAlone_8 flBk_31 (Nat.le_of_ble_eq_true rfl) rfl ?_
    refine Go.icmp_ge (tgt := 56) dBk_costAlone_11 (by decide) (fun q1 => ?_) (fun q1 => ?_)
    · refine Go.iload_n dBk_costAlone_56 rfl ?_
      refine Go.iret dBk_costAlone_57 rfl rfl (by decide) ?_
      rw [hn] at q1
      have hi : i = n := by
        have h9 : n ≤ i := (nI_leI (by omega) (by omega)).mp q1
        omega
      subst hi
      exact ⟨rfl, rfl⟩
    · refine Go.aload_n dBk_costAlone_14 rfl (Nat.ne_of_beq_eq_false rfl) ?_
      refine Go.getR dBk_costAlone_15 flBk_11 (Nat.le_of_ble_eq_true rfl) rfl s.doors ?_
      refine Go.iload_n dBk_costAlone_18 rfl ?_
      have hi : i < n := by
        rw [hn] at q1
        exact Nat.not_le.mp (fun h9 => q1 (nI_le h9 (by omega)))
      refine Go.aald dBk_costAlone_19 (by decide) rfl rfl (by rw [s.ldoors]; omega) (by omega) (s.door (by omega)) ?_
      refine Go.aload_n dBk_costAlone_20 rfl (Nat.ne_of_beq_eq_false rfl) ?_
      refine Go.aload_n dBk_costAlone_21 rfl (Nat.ne_of_beq_eq_false rfl) ?_
      refine Go.getR dBk_costAlone_22 flBk_11 (Nat.le_of_ble_eq_true rfl) rfl s.doors ?_
      refine Go.iload_n dBk_costAlone_25 rfl ?_
      refine Go.aald dBk_costAlone_26 (by decide) rfl rfl (by rw [s.ldoors]; omega) (by omega) (s.door (by omega)) ?_
      refine Go.aload_n dBk_costAlone_27 rfl (Nat.ne_of_beq_eq_false rfl) ?_
      refine Go.getI dBk_costAlone_28 flBk_38 (Nat.le_of_ble_eq_true rfl) rfl ?_
      refine Go.callVr mDo_readyAt [vI (h.1 4 0 6)] dBk_costAlone_31 vwBk_213 (Nat.le_of_ble_eq_true rfl) rfl rfl (Nat.le_of_ble_eq_true rfl) rfl (Nat.le_of_ble_eq_true rfl) (g_Do_readyAt i (h.1 4 0 6)) ?_
      refine Go.callVr mDo_startOf [vO 3 j, vI (sp_ready h.1 i (h.1 4 0 6))] dBk_costAlone_34 vwBk_216 (Nat.le_of_ble_eq_true rfl) rfl rfl (Nat.le_of_ble_eq_true rfl) rfl (Nat.le_of_ble_eq_true rfl) (g_Do_startOf i j (sp_ready h.1 i (h.1 4 0 6))) ?_
      refine Go.istore dBk_costAlone_37 (by decide) rfl ?_
      refine Go.iload_n dBk_costAlone_39 rfl ?_
      refine Go.aload_n dBk_costAlone_40 rfl (Nat.ne_of_beq_eq_false rfl) ?_
      refine Go.iload dBk_costAlone_41 rfl ?_
      refine Go.callVr mTr_costAt [vI (sp_start h.1 i j (sp_ready h.1 i (h.1 4 0 6)))] dBk_costAlone_43 vwBk_210 (Nat.le_of_ble_eq_true rfl) rfl rfl (Nat.le_of_ble_eq_true rfl) rfl (Nat.le_of_ble_eq_true rfl) (g_Tr_costAt j (sp_start h.1 i j (sp_ready h.1 i (h.1 4 0 6)))) ?_
      refine Go.mmin dBk_costAlone_46 mtBk_220 (Nat.le_of_ble_eq_true rfl) (by omega) ?_
      refine Go.istore_n dBk_costAlone_49 (by decide) rfl ?_
      refine Go.iinc dBk_costAlone_50 (by decide) rfl rfl rfl ?_
      refine Go.goto (tgt := 6) dBk_costAlone_53 (by decide) ?_
      obtain ⟨k, rfl⟩ : ∃ k0, k = k0 + 1 := ⟨k - 1, by omega⟩
      have h8 := l_Bk_costAlone (sc := sc) (d := d) (bc := bc) (bs := bs) s hn hle j vU k (i + 1) (by omega) (vI (sp_start h.1 i j (sp_ready h.1 i (h.1 4 0 6))))
      rw [nI_succ] at h8
      exact h8
theorem g_Bk_costAlone {sc : Nat × (Nat → Int32)} {d bc bs : Nat} {h : AH} (s : SB h) {n : Nat} (hn : h.1 4 0 4 = nI n) (hle : n ≤ 4) (j : Nat) : Go sc true true (d + 2) bc bs mBk_costAlone 0 [vO 4 0, vO 3 j, vU, vU, vU] [] h (rV (sp_alone h.1 j n) h) := by
  refine Go.sipush (v := 5000) dBk_costAlone_0 (by decide) ?_
  refine Go.istore_n dBk_costAlone_3 (by decide) rfl ?_
  refine Go.iconst (v := 0) dBk_costAlone_4 (by decide) ?_
  refine Go.istore_n dBk_costAlone_5 (by decide) rfl ?_
  exact l_Bk_costAlone s hn hle j vU n 0 (by omega) vU
set_option maxHeartbeats 2000000 in
theorem l_Bk_bound {sc : Nat × (Nat → Int32)} {d bc bs : Nat} {h : AH} (s : SB h) {n : Nat} (hn : h.1 4 0 5 = nI n) (hle : n ≤ 12) {nd : Nat} (hnd : h.1 4 0 4 = nI nd) (hled : nd ≤ 4) : ∀ k i, i + k = n → Go sc true true (d + 3) bc bs mBk_bound 4 [vO 4 0, vI (sm (fun j => if h.1 3 j 5 = 0 then sp_alone h.1 j nd else 0) i), vI (nI i)] [] h (rV (sm (fun j => if h.1 3 j 5 = 0 then sp_alone h.1 j nd else 0) n) h)
  | k, i, hik => by
    refine Go.iload_n dBk_bound_4 rfl ?_
    refine Go.aload_n dBk_bound_5 rfl (Nat.ne_of_beq_eq_false rfl) ?_
    refine Go.getI dBk_bound_6 flBk_35 (Nat.le_of_ble_eq_true rfl) rfl ?_
    refine Go.icmp_ge (tgt := 43) dBk_bound_9 (by decide) (fun q1 => ?_) (fun q1 => ?_)
    · refine Go.iload_n dBk_bound_43 rfl ?_
      refine Go.iret dBk_bound_44 rfl rfl (by decide) ?_
      rw [hn] at q1
      have hi : i = n := by
        have h9 : n ≤ i := (nI_leI (by omega) (by omega)).mp q1
        omega
      subst hi
      exact ⟨rfl, rfl⟩
    · refine Go.aload_n dBk_bound_12 rfl (Nat.ne_of_beq_eq_false rfl) ?_
      refine Go.getR dBk_bound_13 flBk_17 (Nat.le_of_ble_eq_true rfl) rfl s.trucks ?_
      refine Go.iload_n dBk_bound_16 rfl ?_
      have hi : i < n := by
        rw [hn] at q1
        exact Nat.not_le.mp (fun h9 => q1 (nI_le h9 (by omega)))
      refine Go.aald dBk_bound_17 (by decide) rfl rfl (by rw [s.ltrucks]; omega) (by omega) (s.truck (by omega)) ?_
      refine Go.getI dBk_bound_18 flBk_107 (Nat.le_of_ble_eq_true rfl) rfl ?_
      refine Go.if_ne (tgt := 37) dBk_bound_21 (by decide) (fun q2 => ?_) (fun q2 => ?_)
      · refine Go.iinc dBk_bound_37 (by decide) rfl rfl rfl ?_
        refine Go.goto (tgt := 4) dBk_bound_40 (by decide) ?_
        obtain ⟨k, rfl⟩ : ∃ k0, k = k0 + 1 := ⟨k - 1, by omega⟩
        have h8 := l_Bk_bound (sc := sc) (d := d) (bc := bc) (bs := bs) s hn hle hnd hled k (i + 1) (by omega)
        simp only [sm] at h8
        rw [nI_succ] at h8
        first
          | (rw [if_pos q2] at h8; exact h8)
          | (rw [if_neg q2, Int32.add_zero] at h8; exact h8)
      · refine Go.iload_n dBk_bound_24 rfl ?_
        refine Go.aload_n dBk_bound_25 rfl (Nat.ne_of_beq_eq_false rfl) ?_
        refine Go.aload_n dBk_bound_26 rfl (Nat.ne_of_beq_eq_false rfl) ?_
        refine Go.getR dBk_bound_27 flBk_17 (Nat.le_of_ble_eq_true rfl) rfl s.trucks ?_
        refine Go.iload_n dBk_bound_30 rfl ?_
        refine Go.aald dBk_bound_31 (by decide) rfl rfl (by rw [s.ltrucks]; omega) (by omega) (s.truck (by omega)) ?_
        refine Go.callVr mBk_costAlone [vO 3 i] dBk_bound_32 vwBk_110 (Nat.le_of_ble_eq_true rfl) rfl rfl (Nat.le_of_ble_eq_true rfl) rfl (Nat.le_of_ble_eq_true rfl) (g_Bk_costAlone s hnd hled i) ?_
        refine Go.iadd dBk_bound_35 ?_
        refine Go.istore_n dBk_bound_36 (by decide) rfl ?_
        refine Go.iinc dBk_bound_37 (by decide) rfl rfl rfl ?_
        refine Go.goto (tgt := 4) dBk_bound_40 (by decide) ?_
        obtain ⟨k, rfl⟩ : ∃ k0, k = k0 + 1 := ⟨k - 1, by omega⟩
        have h8 := l_Bk_bound (sc := sc) (d := d) (bc := bc) (bs := bs) s hn hle hnd hled k (i + 1) (by omega)
        simp only [sm] at h8
        rw [nI_succ] at h8
        first
          | (rw [if_pos q2] at h8; exact h8)
          | (rw [if_neg q2, Int32.add_zero] at h8; exact h8)
theorem g_Bk_bound {sc : Nat × (Nat → Int32)} {d bc bs : Nat} {h : AH} (s : SB h) {n : Nat} (hn : h.1 4 0 5 = nI n) (hle : n ≤ 12) {nd : Nat} (hnd : h.1 4 0 4 = nI nd) (hled : nd ≤ 4) : Go sc true true (d + 3) bc bs mBk_bound 0 [vO 4 0, vU, vU] [] h (rV (sm (fun j => if h.1 3 j 5 = 0 then sp_alone h.1 j nd else 0) n) h) := by
  refine Go.iconst (v := 0) dBk_bound_0 (by decide) ?_
  refine Go.istore_n dBk_bound_1 (by decide) rfl ?_
  refine Go.iconst (v := 0) dBk_bound_2 (by decide) ?_
  refine Go.istore_n dBk_bound_3 (by decide) rfl ?_
  exact l_Bk_bound s hn hle hnd hled n 0 (by omega)
end
section
abbrev cMo_init : ByteArray := prog_7_method_1_code
abbrev mMo_init : MD := (⟨"DockBookModel", "<init>", "()V"⟩, cMo_init, 1, none, [])
theorem dMo_init_0 : decode cMo_init 0 = .ok (.aload_n 0, 1) := by decide +kernel
theorem dMo_init_1 : decode cMo_init 1 = .ok (.invokespecial 1, 3) := by decide +kernel
theorem dMo_init_4 : decode cMo_init 4 = .ok (.aload_n 0, 1) := by decide +kernel
theorem dMo_init_5 : decode cMo_init 5 = .ok (.iconst 0, 1) := by decide +kernel
theorem dMo_init_6 : decode cMo_init 6 = .ok (.putfield 7, 3) := by decide +kernel
theorem dMo_init_9 : decode cMo_init 9 = .ok (.aload_n 0, 1) := by decide +kernel
theorem dMo_init_10 : decode cMo_init 10 = .ok (.iconst 0, 1) := by decide +kernel
theorem dMo_init_11 : decode cMo_init 11 = .ok (.putfield 13, 3) := by decide +kernel
theorem dMo_init_14 : decode cMo_init 14 = .ok (.aload_n 0, 1) := by decide +kernel
theorem dMo_init_15 : decode cMo_init 15 = .ok (.iconst 0, 1) := by decide +kernel
theorem dMo_init_16 : decode cMo_init 16 = .ok (.putfield 16, 3) := by decide +kernel
theorem dMo_init_19 : decode cMo_init 19 = .ok (.aload_n 0, 1) := by decide +kernel
theorem dMo_init_20 : decode cMo_init 20 = .ok (.iconst 4, 1) := by decide +kernel
theorem dMo_init_21 : decode cMo_init 21 = .ok (.newarray .int, 2) := by decide +kernel
theorem dMo_init_23 : decode cMo_init 23 = .ok (.putfield 19, 3) := by decide +kernel
theorem dMo_init_26 : decode cMo_init 26 = .ok (.aload_n 0, 1) := by decide +kernel
theorem dMo_init_27 : decode cMo_init 27 = .ok (.iconst 4, 1) := by decide +kernel
theorem dMo_init_28 : decode cMo_init 28 = .ok (.newarray .int, 2) := by decide +kernel
theorem dMo_init_30 : decode cMo_init 30 = .ok (.putfield 23, 3) := by decide +kernel
theorem dMo_init_33 : decode cMo_init 33 = .ok (.aload_n 0, 1) := by decide +kernel
theorem dMo_init_34 : decode cMo_init 34 = .ok (.iconst 4, 1) := by decide +kernel
theorem dMo_init_35 : decode cMo_init 35 = .ok (.newarray .int, 2) := by decide +kernel
theorem dMo_init_37 : decode cMo_init 37 = .ok (.putfield 26, 3) := by decide +kernel
theorem dMo_init_40 : decode cMo_init 40 = .ok (.aload_n 0, 1) := by decide +kernel
theorem dMo_init_41 : decode cMo_init 41 = .ok (.iconst 4, 1) := by decide +kernel
theorem dMo_init_42 : decode cMo_init 42 = .ok (.newarray .boolean, 2) := by decide +kernel
theorem dMo_init_44 : decode cMo_init 44 = .ok (.putfield 29, 3) := by decide +kernel
theorem dMo_init_47 : decode cMo_init 47 = .ok (.aload_n 0, 1) := by decide +kernel
theorem dMo_init_48 : decode cMo_init 48 = .ok (.iconst 4, 1) := by decide +kernel
theorem dMo_init_49 : decode cMo_init 49 = .ok (.newarray .int, 2) := by decide +kernel
theorem dMo_init_51 : decode cMo_init 51 = .ok (.putfield 33, 3) := by decide +kernel
theorem dMo_init_54 : decode cMo_init 54 = .ok (.aload_n 0, 1) := by decide +kernel
theorem dMo_init_55 : decode cMo_init 55 = .ok (.iconst 0, 1) := by decide +kernel
theorem dMo_init_56 : decode cMo_init 56 = .ok (.putfield 36, 3) := by decide +kernel
theorem dMo_init_59 : decode cMo_init 59 = .ok (.aload_n 0, 1) := by decide +kernel
theorem dMo_init_60 : decode cMo_init 60 = .ok (.bipush 12, 2) := by decide +kernel
theorem dMo_init_62 : decode cMo_init 62 = .ok (.newarray .int, 2) := by decide +kernel
theorem dMo_init_64 : decode cMo_init 64 = .ok (.putfield 39, 3) := by decide +kernel
theorem dMo_init_67 : decode cMo_init 67 = .ok (.aload_n 0, 1) := by decide +kernel
theorem dMo_init_68 : decode cMo_init 68 = .ok (.bipush 12, 2) := by decide +kernel
theorem dMo_init_70 : decode cMo_init 70 = .ok (.newarray .int, 2) := by decide +kernel
theorem dMo_init_72 : decode cMo_init 72 = .ok (.putfield 42, 3) := by decide +kernel
theorem dMo_init_75 : decode cMo_init 75 = .ok (.aload_n 0, 1) := by decide +kernel
theorem dMo_init_76 : decode cMo_init 76 = .ok (.bipush 12, 2) := by decide +kernel
theorem dMo_init_78 : decode cMo_init 78 = .ok (.newarray .int, 2) := by decide +kernel
theorem dMo_init_80 : decode cMo_init 80 = .ok (.putfield 45, 3) := by decide +kernel
theorem dMo_init_83 : decode cMo_init 83 = .ok (.aload_n 0, 1) := by decide +kernel
theorem dMo_init_84 : decode cMo_init 84 = .ok (.bipush 12, 2) := by decide +kernel
theorem dMo_init_86 : decode cMo_init 86 = .ok (.newarray .int, 2) := by decide +kernel
theorem dMo_init_88 : decode cMo_init 88 = .ok (.putfield 48, 3) := by decide +kernel
theorem dMo_init_91 : decode cMo_init 91 = .ok (.aload_n 0, 1) := by decide +kernel
theorem dMo_init_92 : decode cMo_init 92 = .ok (.bipush 12, 2) := by decide +kernel
theorem dMo_init_94 : decode cMo_init 94 = .ok (.newarray .int, 2) := by decide +kernel
theorem dMo_init_96 : decode cMo_init 96 = .ok (.putfield 51, 3) := by decide +kernel
theorem dMo_init_99 : decode cMo_init 99 = .ok (.aload_n 0, 1) := by decide +kernel
theorem dMo_init_100 : decode cMo_init 100 = .ok (.bipush 12, 2) := by decide +kernel
theorem dMo_init_102 : decode cMo_init 102 = .ok (.newarray .int, 2) := by decide +kernel
theorem dMo_init_104 : decode cMo_init 104 = .ok (.putfield 54, 3) := by decide +kernel
theorem dMo_init_107 : decode cMo_init 107 = .ok (.aload_n 0, 1) := by decide +kernel
theorem dMo_init_108 : decode cMo_init 108 = .ok (.bipush 12, 2) := by decide +kernel
theorem dMo_init_110 : decode cMo_init 110 = .ok (.newarray .int, 2) := by decide +kernel
theorem dMo_init_112 : decode cMo_init 112 = .ok (.putfield 57, 3) := by decide +kernel
theorem dMo_init_115 : decode cMo_init 115 = .ok (.aload_n 0, 1) := by decide +kernel
theorem dMo_init_116 : decode cMo_init 116 = .ok (.bipush 12, 2) := by decide +kernel
theorem dMo_init_118 : decode cMo_init 118 = .ok (.newarray .int, 2) := by decide +kernel
theorem dMo_init_120 : decode cMo_init 120 = .ok (.putfield 60, 3) := by decide +kernel
theorem dMo_init_123 : decode cMo_init 123 = .ok (.aload_n 0, 1) := by decide +kernel
theorem dMo_init_124 : decode cMo_init 124 = .ok (.bipush 12, 2) := by decide +kernel
theorem dMo_init_126 : decode cMo_init 126 = .ok (.newarray .int, 2) := by decide +kernel
theorem dMo_init_128 : decode cMo_init 128 = .ok (.putfield 63, 3) := by decide +kernel
theorem dMo_init_131 : decode cMo_init 131 = .ok (.aload_n 0, 1) := by decide +kernel
theorem dMo_init_132 : decode cMo_init 132 = .ok (.bipush 12, 2) := by decide +kernel
theorem dMo_init_134 : decode cMo_init 134 = .ok (.newarray .boolean, 2) := by decide +kernel
theorem dMo_init_136 : decode cMo_init 136 = .ok (.putfield 66, 3) := by decide +kernel
theorem dMo_init_139 : decode cMo_init 139 = .ok (.aload_n 0, 1) := by decide +kernel
theorem dMo_init_140 : decode cMo_init 140 = .ok (.bipush 12, 2) := by decide +kernel
theorem dMo_init_142 : decode cMo_init 142 = .ok (.newarray .boolean, 2) := by decide +kernel
theorem dMo_init_144 : decode cMo_init 144 = .ok (.putfield 69, 3) := by decide +kernel
theorem dMo_init_147 : decode cMo_init 147 = .ok (.aload_n 0, 1) := by decide +kernel
theorem dMo_init_148 : decode cMo_init 148 = .ok (.iconst 0, 1) := by decide +kernel
theorem dMo_init_149 : decode cMo_init 149 = .ok (.putfield 72, 3) := by decide +kernel
theorem dMo_init_152 : decode cMo_init 152 = .ok (.aload_n 0, 1) := by decide +kernel
theorem dMo_init_153 : decode cMo_init 153 = .ok (.iconst 0, 1) := by decide +kernel
theorem dMo_init_154 : decode cMo_init 154 = .ok (.putfield 76, 3) := by decide +kernel
theorem dMo_init_157 : decode cMo_init 157 = .ok (.aload_n 0, 1) := by decide +kernel
theorem dMo_init_158 : decode cMo_init 158 = .ok (.iconst 0, 1) := by decide +kernel
theorem dMo_init_159 : decode cMo_init 159 = .ok (.putfield 79, 3) := by decide +kernel
theorem dMo_init_162 : decode cMo_init 162 = .ok (.aload_n 0, 1) := by decide +kernel
theorem dMo_init_163 : decode cMo_init 163 = .ok (.bipush 12, 2) := by decide +kernel
theorem dMo_init_165 : decode cMo_init 165 = .ok (.newarray .int, 2) := by decide +kernel
theorem dMo_init_167 : decode cMo_init 167 = .ok (.putfield 82, 3) := by decide +kernel
theorem dMo_init_170 : decode cMo_init 170 = .ok (.aload_n 0, 1) := by decide +kernel
theorem dMo_init_171 : decode cMo_init 171 = .ok (.bipush 12, 2) := by decide +kernel
theorem dMo_init_173 : decode cMo_init 173 = .ok (.newarray .int, 2) := by decide +kernel
theorem dMo_init_175 : decode cMo_init 175 = .ok (.putfield 85, 3) := by decide +kernel
theorem dMo_init_178 : decode cMo_init 178 = .ok (.aload_n 0, 1) := by decide +kernel
theorem dMo_init_179 : decode cMo_init 179 = .ok (.bipush 12, 2) := by decide +kernel
theorem dMo_init_181 : decode cMo_init 181 = .ok (.newarray .int, 2) := by decide +kernel
theorem dMo_init_183 : decode cMo_init 183 = .ok (.putfield 88, 3) := by decide +kernel
theorem dMo_init_186 : decode cMo_init 186 = .ok (.aload_n 0, 1) := by decide +kernel
theorem dMo_init_187 : decode cMo_init 187 = .ok (.sipush 128, 3) := by decide +kernel
theorem dMo_init_190 : decode cMo_init 190 = .ok (.newarray .int, 2) := by decide +kernel
theorem dMo_init_192 : decode cMo_init 192 = .ok (.putfield 91, 3) := by decide +kernel
theorem dMo_init_195 : decode cMo_init 195 = .ok (.aload_n 0, 1) := by decide +kernel
theorem dMo_init_196 : decode cMo_init 196 = .ok (.sipush 640, 3) := by decide +kernel
theorem dMo_init_199 : decode cMo_init 199 = .ok (.newarray .int, 2) := by decide +kernel
theorem dMo_init_201 : decode cMo_init 201 = .ok (.putfield 94, 3) := by decide +kernel
theorem dMo_init_204 : decode cMo_init 204 = .ok (.aload_n 0, 1) := by decide +kernel
theorem dMo_init_205 : decode cMo_init 205 = .ok (.iconst 5, 1) := by decide +kernel
theorem dMo_init_206 : decode cMo_init 206 = .ok (.newarray .int, 2) := by decide +kernel
theorem dMo_init_208 : decode cMo_init 208 = .ok (.putfield 97, 3) := by decide +kernel
theorem dMo_init_211 : decode cMo_init 211 = .ok (.aload_n 0, 1) := by decide +kernel
theorem dMo_init_212 : decode cMo_init 212 = .ok (.iconst 4, 1) := by decide +kernel
theorem dMo_init_213 : decode cMo_init 213 = .ok (.newarray .int, 2) := by decide +kernel
theorem dMo_init_215 : decode cMo_init 215 = .ok (.putfield 100, 3) := by decide +kernel
theorem dMo_init_218 : decode cMo_init 218 = .ok (.return_, 1) := by decide +kernel
abbrev cMo_findWaiting : ByteArray := prog_7_method_2_code
abbrev mMo_findWaiting : MD := (⟨"DockBookModel", "findWaiting", "()V"⟩, cMo_findWaiting, 2, none, [])
theorem dMo_findWaiting_0 : decode cMo_findWaiting 0 = .ok (.aload_n 0, 1) := by decide +kernel
theorem dMo_findWaiting_1 : decode cMo_findWaiting 1 = .ok (.iconst 0, 1) := by decide +kernel
theorem dMo_findWaiting_2 : decode cMo_findWaiting 2 = .ok (.putfield 79, 3) := by decide +kernel
theorem dMo_findWaiting_5 : decode cMo_findWaiting 5 = .ok (.iconst 0, 1) := by decide +kernel
theorem dMo_findWaiting_6 : decode cMo_findWaiting 6 = .ok (.istore_n 1, 1) := by decide +kernel
theorem dMo_findWaiting_7 : decode cMo_findWaiting 7 = .ok (.iload_n 1, 1) := by decide +kernel
theorem dMo_findWaiting_8 : decode cMo_findWaiting 8 = .ok (.aload_n 0, 1) := by decide +kernel
theorem dMo_findWaiting_9 : decode cMo_findWaiting 9 = .ok (.getfield 36, 3) := by decide +kernel
theorem dMo_findWaiting_12 : decode cMo_findWaiting 12 = .ok (.if_icmp .ge 38, 3) := by decide +kernel
theorem dMo_findWaiting_15 : decode cMo_findWaiting 15 = .ok (.aload_n 0, 1) := by decide +kernel
theorem dMo_findWaiting_16 : decode cMo_findWaiting 16 = .ok (.getfield 39, 3) := by decide +kernel
theorem dMo_findWaiting_19 : decode cMo_findWaiting 19 = .ok (.iload_n 1, 1) := by decide +kernel
theorem dMo_findWaiting_20 : decode cMo_findWaiting 20 = .ok (.iaload, 1) := by decide +kernel
theorem dMo_findWaiting_21 : decode cMo_findWaiting 21 = .ok (.ifCond .ne 23, 3) := by decide +kernel
theorem dMo_findWaiting_24 : decode cMo_findWaiting 24 = .ok (.aload_n 0, 1) := by decide +kernel
theorem dMo_findWaiting_25 : decode cMo_findWaiting 25 = .ok (.getfield 82, 3) := by decide +kernel
theorem dMo_findWaiting_28 : decode cMo_findWaiting 28 = .ok (.aload_n 0, 1) := by decide +kernel
theorem dMo_findWaiting_29 : decode cMo_findWaiting 29 = .ok (.getfield 79, 3) := by decide +kernel
theorem dMo_findWaiting_32 : decode cMo_findWaiting 32 = .ok (.iload_n 1, 1) := by decide +kernel
theorem dMo_findWaiting_33 : decode cMo_findWaiting 33 = .ok (.iastore, 1) := by decide +kernel
theorem dMo_findWaiting_34 : decode cMo_findWaiting 34 = .ok (.aload_n 0, 1) := by decide +kernel
theorem dMo_findWaiting_35 : decode cMo_findWaiting 35 = .ok (.dup, 1) := by decide +kernel
theorem dMo_findWaiting_36 : decode cMo_findWaiting 36 = .ok (.getfield 79, 3) := by decide +kernel
theorem dMo_findWaiting_39 : decode cMo_findWaiting 39 = .ok (.iconst 1, 1) := by decide +kernel
theorem dMo_findWaiting_40 : decode cMo_findWaiting 40 = .ok (.iadd, 1) := by decide +kernel
theorem dMo_findWaiting_41 : decode cMo_findWaiting 41 = .ok (.putfield 79, 3) := by decide +kernel
theorem dMo_findWaiting_44 : decode cMo_findWaiting 44 = .ok (.iinc 1 1, 3) := by decide +kernel
theorem dMo_findWaiting_47 : decode cMo_findWaiting 47 = .ok (.goto (-40), 3) := by decide +kernel
theorem dMo_findWaiting_50 : decode cMo_findWaiting 50 = .ok (.return_, 1) := by decide +kernel
abbrev cMo_at : ByteArray := prog_7_method_3_code
abbrev mMo_at : MD := (⟨"DockBookModel", "at", "(I)I"⟩, cMo_at, 3, some (.int), [])
theorem dMo_at_0 : decode cMo_at 0 = .ok (.iconst 0, 1) := by decide +kernel
theorem dMo_at_1 : decode cMo_at 1 = .ok (.istore_n 2, 1) := by decide +kernel
theorem dMo_at_2 : decode cMo_at 2 = .ok (.iload_n 2, 1) := by decide +kernel
theorem dMo_at_3 : decode cMo_at 3 = .ok (.aload_n 0, 1) := by decide +kernel
theorem dMo_at_4 : decode cMo_at 4 = .ok (.getfield 36, 3) := by decide +kernel
theorem dMo_at_7 : decode cMo_at 7 = .ok (.if_icmp .ge 31, 3) := by decide +kernel
theorem dMo_at_10 : decode cMo_at 10 = .ok (.aload_n 0, 1) := by decide +kernel
theorem dMo_at_11 : decode cMo_at 11 = .ok (.getfield 39, 3) := by decide +kernel
theorem dMo_at_14 : decode cMo_at 14 = .ok (.iload_n 2, 1) := by decide +kernel
theorem dMo_at_15 : decode cMo_at 15 = .ok (.iaload, 1) := by decide +kernel
theorem dMo_at_16 : decode cMo_at 16 = .ok (.iconst 1, 1) := by decide +kernel
theorem dMo_at_17 : decode cMo_at 17 = .ok (.if_icmp .ne 15, 3) := by decide +kernel
theorem dMo_at_20 : decode cMo_at 20 = .ok (.aload_n 0, 1) := by decide +kernel
theorem dMo_at_21 : decode cMo_at 21 = .ok (.getfield 54, 3) := by decide +kernel
theorem dMo_at_24 : decode cMo_at 24 = .ok (.iload_n 2, 1) := by decide +kernel
theorem dMo_at_25 : decode cMo_at 25 = .ok (.iaload, 1) := by decide +kernel
theorem dMo_at_26 : decode cMo_at 26 = .ok (.iload_n 1, 1) := by decide +kernel
theorem dMo_at_27 : decode cMo_at 27 = .ok (.if_icmp .ne 5, 3) := by decide +kernel
theorem dMo_at_30 : decode cMo_at 30 = .ok (.iload_n 2, 1) := by decide +kernel
theorem dMo_at_31 : decode cMo_at 31 = .ok (.ireturn, 1) := by decide +kernel
theorem dMo_at_32 : decode cMo_at 32 = .ok (.iinc 2 1, 3) := by decide +kernel
theorem dMo_at_35 : decode cMo_at 35 = .ok (.goto (-33), 3) := by decide +kernel
theorem dMo_at_38 : decode cMo_at 38 = .ok (.iconst (-1), 1) := by decide +kernel
theorem dMo_at_39 : decode cMo_at 39 = .ok (.ireturn, 1) := by decide +kernel
abbrev cMo_freeFrom : ByteArray := prog_7_method_4_code
abbrev mMo_freeFrom : MD := (⟨"DockBookModel", "freeFrom", "(I)I"⟩, cMo_freeFrom, 4, some (.int), [])
theorem dMo_freeFrom_0 : decode cMo_freeFrom 0 = .ok (.aload_n 0, 1) := by decide +kernel
theorem dMo_freeFrom_1 : decode cMo_freeFrom 1 = .ok (.iload_n 1, 1) := by decide +kernel
theorem dMo_freeFrom_2 : decode cMo_freeFrom 2 = .ok (.invokevirtual 103, 3) := by decide +kernel
theorem dMo_freeFrom_5 : decode cMo_freeFrom 5 = .ok (.istore_n 2, 1) := by decide +kernel
theorem dMo_freeFrom_6 : decode cMo_freeFrom 6 = .ok (.iload_n 2, 1) := by decide +kernel
theorem dMo_freeFrom_7 : decode cMo_freeFrom 7 = .ok (.ifCond .ge 7, 3) := by decide +kernel
theorem dMo_freeFrom_10 : decode cMo_freeFrom 10 = .ok (.iconst 0, 1) := by decide +kernel
theorem dMo_freeFrom_11 : decode cMo_freeFrom 11 = .ok (.goto 16, 3) := by decide +kernel
theorem dMo_freeFrom_14 : decode cMo_freeFrom 14 = .ok (.aload_n 0, 1) := by decide +kernel
theorem dMo_freeFrom_15 : decode cMo_freeFrom 15 = .ok (.getfield 57, 3) := by decide +kernel
theorem dMo_freeFrom_18 : decode cMo_freeFrom 18 = .ok (.iload_n 2, 1) := by decide +kernel
theorem dMo_freeFrom_19 : decode cMo_freeFrom 19 = .ok (.iaload, 1) := by decide +kernel
theorem dMo_freeFrom_20 : decode cMo_freeFrom 20 = .ok (.aload_n 0, 1) := by decide +kernel
theorem dMo_freeFrom_21 : decode cMo_freeFrom 21 = .ok (.getfield 48, 3) := by decide +kernel
theorem dMo_freeFrom_24 : decode cMo_freeFrom 24 = .ok (.iload_n 2, 1) := by decide +kernel
theorem dMo_freeFrom_25 : decode cMo_freeFrom 25 = .ok (.iaload, 1) := by decide +kernel
theorem dMo_freeFrom_26 : decode cMo_freeFrom 26 = .ok (.iadd, 1) := by decide +kernel
theorem dMo_freeFrom_27 : decode cMo_freeFrom 27 = .ok (.istore_n 3, 1) := by decide +kernel
theorem dMo_freeFrom_28 : decode cMo_freeFrom 28 = .ok (.iload_n 3, 1) := by decide +kernel
theorem dMo_freeFrom_29 : decode cMo_freeFrom 29 = .ok (.aload_n 0, 1) := by decide +kernel
theorem dMo_freeFrom_30 : decode cMo_freeFrom 30 = .ok (.getfield 13, 3) := by decide +kernel
theorem dMo_freeFrom_33 : decode cMo_freeFrom 33 = .ok (.if_icmp .le 7, 3) := by decide +kernel
theorem dMo_freeFrom_36 : decode cMo_freeFrom 36 = .ok (.iload_n 3, 1) := by decide +kernel
theorem dMo_freeFrom_37 : decode cMo_freeFrom 37 = .ok (.goto 7, 3) := by decide +kernel
theorem dMo_freeFrom_40 : decode cMo_freeFrom 40 = .ok (.aload_n 0, 1) := by decide +kernel
theorem dMo_freeFrom_41 : decode cMo_freeFrom 41 = .ok (.getfield 13, 3) := by decide +kernel
theorem dMo_freeFrom_44 : decode cMo_freeFrom 44 = .ok (.ireturn, 1) := by decide +kernel
abbrev cMo_startAt : ByteArray := prog_7_method_5_code
abbrev mMo_startAt : MD := (⟨"DockBookModel", "startAt", "(III)I"⟩, cMo_startAt, 5, some (.int), [])
theorem dMo_startAt_0 : decode cMo_startAt 0 = .ok (.aload_n 0, 1) := by decide +kernel
theorem dMo_startAt_1 : decode cMo_startAt 1 = .ok (.getfield 29, 3) := by decide +kernel
theorem dMo_startAt_4 : decode cMo_startAt 4 = .ok (.iload_n 2, 1) := by decide +kernel
theorem dMo_startAt_5 : decode cMo_startAt 5 = .ok (.baload, 1) := by decide +kernel
theorem dMo_startAt_6 : decode cMo_startAt 6 = .ok (.ifCond .ne 21, 3) := by decide +kernel
theorem dMo_startAt_9 : decode cMo_startAt 9 = .ok (.aload_n 0, 1) := by decide +kernel
theorem dMo_startAt_10 : decode cMo_startAt 10 = .ok (.getfield 19, 3) := by decide +kernel
theorem dMo_startAt_13 : decode cMo_startAt 13 = .ok (.iload_n 2, 1) := by decide +kernel
theorem dMo_startAt_14 : decode cMo_startAt 14 = .ok (.iaload, 1) := by decide +kernel
theorem dMo_startAt_15 : decode cMo_startAt 15 = .ok (.aload_n 0, 1) := by decide +kernel
theorem dMo_startAt_16 : decode cMo_startAt 16 = .ok (.getfield 42, 3) := by decide +kernel
theorem dMo_startAt_19 : decode cMo_startAt 19 = .ok (.iload_n 1, 1) := by decide +kernel
theorem dMo_startAt_20 : decode cMo_startAt 20 = .ok (.iaload, 1) := by decide +kernel
theorem dMo_startAt_21 : decode cMo_startAt 21 = .ok (.ishr, 1) := by decide +kernel
theorem dMo_startAt_22 : decode cMo_startAt 22 = .ok (.iconst 1, 1) := by decide +kernel
theorem dMo_startAt_23 : decode cMo_startAt 23 = .ok (.iand, 1) := by decide +kernel
theorem dMo_startAt_24 : decode cMo_startAt 24 = .ok (.ifCond .ne 5, 3) := by decide +kernel
theorem dMo_startAt_27 : decode cMo_startAt 27 = .ok (.iconst (-1), 1) := by decide +kernel
theorem dMo_startAt_28 : decode cMo_startAt 28 = .ok (.ireturn, 1) := by decide +kernel
theorem dMo_startAt_29 : decode cMo_startAt 29 = .ok (.iload_n 3, 1) := by decide +kernel
theorem dMo_startAt_30 : decode cMo_startAt 30 = .ok (.istore 4, 2) := by decide +kernel
theorem dMo_startAt_32 : decode cMo_startAt 32 = .ok (.aload_n 0, 1) := by decide +kernel
theorem dMo_startAt_33 : decode cMo_startAt 33 = .ok (.getfield 45, 3) := by decide +kernel
theorem dMo_startAt_36 : decode cMo_startAt 36 = .ok (.iload_n 1, 1) := by decide +kernel
theorem dMo_startAt_37 : decode cMo_startAt 37 = .ok (.iaload, 1) := by decide +kernel
theorem dMo_startAt_38 : decode cMo_startAt 38 = .ok (.iload 4, 2) := by decide +kernel
theorem dMo_startAt_40 : decode cMo_startAt 40 = .ok (.if_icmp .le 11, 3) := by decide +kernel
theorem dMo_startAt_43 : decode cMo_startAt 43 = .ok (.aload_n 0, 1) := by decide +kernel
theorem dMo_startAt_44 : decode cMo_startAt 44 = .ok (.getfield 45, 3) := by decide +kernel
theorem dMo_startAt_47 : decode cMo_startAt 47 = .ok (.iload_n 1, 1) := by decide +kernel
theorem dMo_startAt_48 : decode cMo_startAt 48 = .ok (.iaload, 1) := by decide +kernel
theorem dMo_startAt_49 : decode cMo_startAt 49 = .ok (.istore 4, 2) := by decide +kernel
theorem dMo_startAt_51 : decode cMo_startAt 51 = .ok (.aload_n 0, 1) := by decide +kernel
theorem dMo_startAt_52 : decode cMo_startAt 52 = .ok (.getfield 23, 3) := by decide +kernel
theorem dMo_startAt_55 : decode cMo_startAt 55 = .ok (.iload_n 2, 1) := by decide +kernel
theorem dMo_startAt_56 : decode cMo_startAt 56 = .ok (.iaload, 1) := by decide +kernel
theorem dMo_startAt_57 : decode cMo_startAt 57 = .ok (.iload 4, 2) := by decide +kernel
theorem dMo_startAt_59 : decode cMo_startAt 59 = .ok (.if_icmp .le 11, 3) := by decide +kernel
theorem dMo_startAt_62 : decode cMo_startAt 62 = .ok (.aload_n 0, 1) := by decide +kernel
theorem dMo_startAt_63 : decode cMo_startAt 63 = .ok (.getfield 23, 3) := by decide +kernel
theorem dMo_startAt_66 : decode cMo_startAt 66 = .ok (.iload_n 2, 1) := by decide +kernel
theorem dMo_startAt_67 : decode cMo_startAt 67 = .ok (.iaload, 1) := by decide +kernel
theorem dMo_startAt_68 : decode cMo_startAt 68 = .ok (.istore 4, 2) := by decide +kernel
theorem dMo_startAt_70 : decode cMo_startAt 70 = .ok (.aload_n 0, 1) := by decide +kernel
theorem dMo_startAt_71 : decode cMo_startAt 71 = .ok (.getfield 13, 3) := by decide +kernel
theorem dMo_startAt_74 : decode cMo_startAt 74 = .ok (.iload 4, 2) := by decide +kernel
theorem dMo_startAt_76 : decode cMo_startAt 76 = .ok (.if_icmp .le 9, 3) := by decide +kernel
theorem dMo_startAt_79 : decode cMo_startAt 79 = .ok (.aload_n 0, 1) := by decide +kernel
theorem dMo_startAt_80 : decode cMo_startAt 80 = .ok (.getfield 13, 3) := by decide +kernel
theorem dMo_startAt_83 : decode cMo_startAt 83 = .ok (.istore 4, 2) := by decide +kernel
theorem dMo_startAt_85 : decode cMo_startAt 85 = .ok (.iload 4, 2) := by decide +kernel
theorem dMo_startAt_87 : decode cMo_startAt 87 = .ok (.aload_n 0, 1) := by decide +kernel
theorem dMo_startAt_88 : decode cMo_startAt 88 = .ok (.getfield 48, 3) := by decide +kernel
theorem dMo_startAt_91 : decode cMo_startAt 91 = .ok (.iload_n 1, 1) := by decide +kernel
theorem dMo_startAt_92 : decode cMo_startAt 92 = .ok (.iaload, 1) := by decide +kernel
theorem dMo_startAt_93 : decode cMo_startAt 93 = .ok (.iadd, 1) := by decide +kernel
theorem dMo_startAt_94 : decode cMo_startAt 94 = .ok (.aload_n 0, 1) := by decide +kernel
theorem dMo_startAt_95 : decode cMo_startAt 95 = .ok (.getfield 26, 3) := by decide +kernel
theorem dMo_startAt_98 : decode cMo_startAt 98 = .ok (.iload_n 2, 1) := by decide +kernel
theorem dMo_startAt_99 : decode cMo_startAt 99 = .ok (.iaload, 1) := by decide +kernel
theorem dMo_startAt_100 : decode cMo_startAt 100 = .ok (.if_icmp .le 7, 3) := by decide +kernel
theorem dMo_startAt_103 : decode cMo_startAt 103 = .ok (.iconst (-1), 1) := by decide +kernel
theorem dMo_startAt_104 : decode cMo_startAt 104 = .ok (.goto 5, 3) := by decide +kernel
theorem dMo_startAt_107 : decode cMo_startAt 107 = .ok (.iload 4, 2) := by decide +kernel
theorem dMo_startAt_109 : decode cMo_startAt 109 = .ok (.ireturn, 1) := by decide +kernel
abbrev cMo_inOrder : ByteArray := prog_7_method_6_code
abbrev mMo_inOrder : MD := (⟨"DockBookModel", "inOrder", "(III)I"⟩, cMo_inOrder, 13, some (.int), [])
theorem dMo_inOrder_0 : decode cMo_inOrder 0 = .ok (.iload_n 2, 1) := by decide +kernel
theorem dMo_inOrder_1 : decode cMo_inOrder 1 = .ok (.istore 4, 2) := by decide +kernel
theorem dMo_inOrder_3 : decode cMo_inOrder 3 = .ok (.iload_n 3, 1) := by decide +kernel
theorem dMo_inOrder_4 : decode cMo_inOrder 4 = .ok (.istore 5, 2) := by decide +kernel
theorem dMo_inOrder_6 : decode cMo_inOrder 6 = .ok (.aload_n 0, 1) := by decide +kernel
theorem dMo_inOrder_7 : decode cMo_inOrder 7 = .ok (.iload_n 1, 1) := by decide +kernel
theorem dMo_inOrder_8 : decode cMo_inOrder 8 = .ok (.invokevirtual 107, 3) := by decide +kernel
theorem dMo_inOrder_11 : decode cMo_inOrder 11 = .ok (.istore 6, 2) := by decide +kernel
theorem dMo_inOrder_13 : decode cMo_inOrder 13 = .ok (.iconst 0, 1) := by decide +kernel
theorem dMo_inOrder_14 : decode cMo_inOrder 14 = .ok (.istore 7, 2) := by decide +kernel
theorem dMo_inOrder_16 : decode cMo_inOrder 16 = .ok (.iconst 0, 1) := by decide +kernel
theorem dMo_inOrder_17 : decode cMo_inOrder 17 = .ok (.istore 8, 2) := by decide +kernel
theorem dMo_inOrder_19 : decode cMo_inOrder 19 = .ok (.iconst 0, 1) := by decide +kernel
theorem dMo_inOrder_20 : decode cMo_inOrder 20 = .ok (.istore 9, 2) := by decide +kernel
theorem dMo_inOrder_22 : decode cMo_inOrder 22 = .ok (.iload 9, 2) := by decide +kernel
theorem dMo_inOrder_24 : decode cMo_inOrder 24 = .ok (.iconst 5, 1) := by decide +kernel
theorem dMo_inOrder_25 : decode cMo_inOrder 25 = .ok (.if_icmp .ge 20, 3) := by decide +kernel
theorem dMo_inOrder_28 : decode cMo_inOrder 28 = .ok (.iload 8, 2) := by decide +kernel
theorem dMo_inOrder_30 : decode cMo_inOrder 30 = .ok (.iload_n 2, 1) := by decide +kernel
theorem dMo_inOrder_31 : decode cMo_inOrder 31 = .ok (.iload 9, 2) := by decide +kernel
theorem dMo_inOrder_33 : decode cMo_inOrder 33 = .ok (.ishr, 1) := by decide +kernel
theorem dMo_inOrder_34 : decode cMo_inOrder 34 = .ok (.iconst 1, 1) := by decide +kernel
theorem dMo_inOrder_35 : decode cMo_inOrder 35 = .ok (.iand, 1) := by decide +kernel
theorem dMo_inOrder_36 : decode cMo_inOrder 36 = .ok (.iadd, 1) := by decide +kernel
theorem dMo_inOrder_37 : decode cMo_inOrder 37 = .ok (.istore 8, 2) := by decide +kernel
theorem dMo_inOrder_39 : decode cMo_inOrder 39 = .ok (.iinc 9 1, 3) := by decide +kernel
theorem dMo_inOrder_42 : decode cMo_inOrder 42 = .ok (.goto (-20), 3) := by decide +kernel
theorem dMo_inOrder_45 : decode cMo_inOrder 45 = .ok (.iload 8, 2) := by decide +kernel
theorem dMo_inOrder_47 : decode cMo_inOrder 47 = .ok (.ifCond .le 135, 3) := by decide +kernel
theorem dMo_inOrder_50 : decode cMo_inOrder 50 = .ok (.iload 5, 2) := by decide +kernel
theorem dMo_inOrder_52 : decode cMo_inOrder 52 = .ok (.iload 8, 2) := by decide +kernel
theorem dMo_inOrder_54 : decode cMo_inOrder 54 = .ok (.irem, 1) := by decide +kernel
theorem dMo_inOrder_55 : decode cMo_inOrder 55 = .ok (.istore 9, 2) := by decide +kernel
theorem dMo_inOrder_57 : decode cMo_inOrder 57 = .ok (.iload 5, 2) := by decide +kernel
theorem dMo_inOrder_59 : decode cMo_inOrder 59 = .ok (.iload 8, 2) := by decide +kernel
theorem dMo_inOrder_61 : decode cMo_inOrder 61 = .ok (.idiv, 1) := by decide +kernel
theorem dMo_inOrder_62 : decode cMo_inOrder 62 = .ok (.istore 5, 2) := by decide +kernel
theorem dMo_inOrder_64 : decode cMo_inOrder 64 = .ok (.iconst 0, 1) := by decide +kernel
theorem dMo_inOrder_65 : decode cMo_inOrder 65 = .ok (.istore 10, 2) := by decide +kernel
theorem dMo_inOrder_67 : decode cMo_inOrder 67 = .ok (.iload 4, 2) := by decide +kernel
theorem dMo_inOrder_69 : decode cMo_inOrder 69 = .ok (.iload 10, 2) := by decide +kernel
theorem dMo_inOrder_71 : decode cMo_inOrder 71 = .ok (.ishr, 1) := by decide +kernel
theorem dMo_inOrder_72 : decode cMo_inOrder 72 = .ok (.iconst 1, 1) := by decide +kernel
theorem dMo_inOrder_73 : decode cMo_inOrder 73 = .ok (.iand, 1) := by decide +kernel
theorem dMo_inOrder_74 : decode cMo_inOrder 74 = .ok (.ifCond .eq 8, 3) := by decide +kernel
theorem dMo_inOrder_77 : decode cMo_inOrder 77 = .ok (.iload 9, 2) := by decide +kernel
theorem dMo_inOrder_79 : decode cMo_inOrder 79 = .ok (.ifCond .le 23, 3) := by decide +kernel
theorem dMo_inOrder_82 : decode cMo_inOrder 82 = .ok (.iload 4, 2) := by decide +kernel
theorem dMo_inOrder_84 : decode cMo_inOrder 84 = .ok (.iload 10, 2) := by decide +kernel
theorem dMo_inOrder_86 : decode cMo_inOrder 86 = .ok (.ishr, 1) := by decide +kernel
theorem dMo_inOrder_87 : decode cMo_inOrder 87 = .ok (.iconst 1, 1) := by decide +kernel
theorem dMo_inOrder_88 : decode cMo_inOrder 88 = .ok (.iand, 1) := by decide +kernel
theorem dMo_inOrder_89 : decode cMo_inOrder 89 = .ok (.iconst 1, 1) := by decide +kernel
theorem dMo_inOrder_90 : decode cMo_inOrder 90 = .ok (.if_icmp .ne 6, 3) := by decide +kernel
theorem dMo_inOrder_93 : decode cMo_inOrder 93 = .ok (.iinc 9 (-1), 3) := by decide +kernel
theorem dMo_inOrder_96 : decode cMo_inOrder 96 = .ok (.iinc 10 1, 3) := by decide +kernel
theorem dMo_inOrder_99 : decode cMo_inOrder 99 = .ok (.goto (-32), 3) := by decide +kernel
theorem dMo_inOrder_102 : decode cMo_inOrder 102 = .ok (.iload 4, 2) := by decide +kernel
theorem dMo_inOrder_104 : decode cMo_inOrder 104 = .ok (.iconst 1, 1) := by decide +kernel
theorem dMo_inOrder_105 : decode cMo_inOrder 105 = .ok (.iload 10, 2) := by decide +kernel
theorem dMo_inOrder_107 : decode cMo_inOrder 107 = .ok (.ishl, 1) := by decide +kernel
theorem dMo_inOrder_108 : decode cMo_inOrder 108 = .ok (.iconst (-1), 1) := by decide +kernel
theorem dMo_inOrder_109 : decode cMo_inOrder 109 = .ok (.ixor, 1) := by decide +kernel
theorem dMo_inOrder_110 : decode cMo_inOrder 110 = .ok (.iand, 1) := by decide +kernel
theorem dMo_inOrder_111 : decode cMo_inOrder 111 = .ok (.istore 4, 2) := by decide +kernel
theorem dMo_inOrder_113 : decode cMo_inOrder 113 = .ok (.aload_n 0, 1) := by decide +kernel
theorem dMo_inOrder_114 : decode cMo_inOrder 114 = .ok (.getfield 82, 3) := by decide +kernel
theorem dMo_inOrder_117 : decode cMo_inOrder 117 = .ok (.iload 10, 2) := by decide +kernel
theorem dMo_inOrder_119 : decode cMo_inOrder 119 = .ok (.iaload, 1) := by decide +kernel
theorem dMo_inOrder_120 : decode cMo_inOrder 120 = .ok (.istore 11, 2) := by decide +kernel
theorem dMo_inOrder_122 : decode cMo_inOrder 122 = .ok (.aload_n 0, 1) := by decide +kernel
theorem dMo_inOrder_123 : decode cMo_inOrder 123 = .ok (.iload 11, 2) := by decide +kernel
theorem dMo_inOrder_125 : decode cMo_inOrder 125 = .ok (.iload_n 1, 1) := by decide +kernel
theorem dMo_inOrder_126 : decode cMo_inOrder 126 = .ok (.iload 6, 2) := by decide +kernel
theorem dMo_inOrder_128 : decode cMo_inOrder 128 = .ok (.invokevirtual 110, 3) := by decide +kernel
theorem dMo_inOrder_131 : decode cMo_inOrder 131 = .ok (.istore 12, 2) := by decide +kernel
theorem dMo_inOrder_133 : decode cMo_inOrder 133 = .ok (.iload 12, 2) := by decide +kernel
theorem dMo_inOrder_135 : decode cMo_inOrder 135 = .ok (.ifCond .ge 5, 3) := by decide +kernel
theorem dMo_inOrder_138 : decode cMo_inOrder 138 = .ok (.iconst (-1), 1) := by decide +kernel
theorem dMo_inOrder_139 : decode cMo_inOrder 139 = .ok (.ireturn, 1) := by decide +kernel
theorem dMo_inOrder_140 : decode cMo_inOrder 140 = .ok (.aload_n 0, 1) := by decide +kernel
theorem dMo_inOrder_141 : decode cMo_inOrder 141 = .ok (.getfield 97, 3) := by decide +kernel
theorem dMo_inOrder_144 : decode cMo_inOrder 144 = .ok (.iload 10, 2) := by decide +kernel
theorem dMo_inOrder_146 : decode cMo_inOrder 146 = .ok (.iload 12, 2) := by decide +kernel
theorem dMo_inOrder_148 : decode cMo_inOrder 148 = .ok (.iastore, 1) := by decide +kernel
theorem dMo_inOrder_149 : decode cMo_inOrder 149 = .ok (.iload 7, 2) := by decide +kernel
theorem dMo_inOrder_151 : decode cMo_inOrder 151 = .ok (.iload 12, 2) := by decide +kernel
theorem dMo_inOrder_153 : decode cMo_inOrder 153 = .ok (.aload_n 0, 1) := by decide +kernel
theorem dMo_inOrder_154 : decode cMo_inOrder 154 = .ok (.getfield 45, 3) := by decide +kernel
theorem dMo_inOrder_157 : decode cMo_inOrder 157 = .ok (.iload 11, 2) := by decide +kernel
theorem dMo_inOrder_159 : decode cMo_inOrder 159 = .ok (.iaload, 1) := by decide +kernel
theorem dMo_inOrder_160 : decode cMo_inOrder 160 = .ok (.isub, 1) := by decide +kernel
theorem dMo_inOrder_161 : decode cMo_inOrder 161 = .ok (.iadd, 1) := by decide +kernel
theorem dMo_inOrder_162 : decode cMo_inOrder 162 = .ok (.istore 7, 2) := by decide +kernel
theorem dMo_inOrder_164 : decode cMo_inOrder 164 = .ok (.iload 12, 2) := by decide +kernel
theorem dMo_inOrder_166 : decode cMo_inOrder 166 = .ok (.aload_n 0, 1) := by decide +kernel
theorem dMo_inOrder_167 : decode cMo_inOrder 167 = .ok (.getfield 48, 3) := by decide +kernel
theorem dMo_inOrder_170 : decode cMo_inOrder 170 = .ok (.iload 11, 2) := by decide +kernel
theorem dMo_inOrder_172 : decode cMo_inOrder 172 = .ok (.iaload, 1) := by decide +kernel
theorem dMo_inOrder_173 : decode cMo_inOrder 173 = .ok (.iadd, 1) := by decide +kernel
theorem dMo_inOrder_174 : decode cMo_inOrder 174 = .ok (.istore 6, 2) := by decide +kernel
theorem dMo_inOrder_176 : decode cMo_inOrder 176 = .ok (.iinc 8 (-1), 3) := by decide +kernel
theorem dMo_inOrder_179 : decode cMo_inOrder 179 = .ok (.goto (-134), 3) := by decide +kernel
theorem dMo_inOrder_182 : decode cMo_inOrder 182 = .ok (.iload 7, 2) := by decide +kernel
theorem dMo_inOrder_184 : decode cMo_inOrder 184 = .ok (.ireturn, 1) := by decide +kernel
abbrev cMo_findSet : ByteArray := prog_7_method_7_code
abbrev mMo_findSet : MD := (⟨"DockBookModel", "findSet", "(II)V"⟩, cMo_findSet, 10, none, [])
theorem dMo_findSet_0 : decode cMo_findSet 0 = .ok (.bipush 32, 2) := by decide +kernel
theorem dMo_findSet_2 : decode cMo_findSet 2 = .ok (.iload_n 1, 1) := by decide +kernel
theorem dMo_findSet_3 : decode cMo_findSet 3 = .ok (.imul, 1) := by decide +kernel
theorem dMo_findSet_4 : decode cMo_findSet 4 = .ok (.iload_n 2, 1) := by decide +kernel
theorem dMo_findSet_5 : decode cMo_findSet 5 = .ok (.iadd, 1) := by decide +kernel
theorem dMo_findSet_6 : decode cMo_findSet 6 = .ok (.istore_n 3, 1) := by decide +kernel
theorem dMo_findSet_7 : decode cMo_findSet 7 = .ok (.iconst 1, 1) := by decide +kernel
theorem dMo_findSet_8 : decode cMo_findSet 8 = .ok (.istore 4, 2) := by decide +kernel
theorem dMo_findSet_10 : decode cMo_findSet 10 = .ok (.iconst 0, 1) := by decide +kernel
theorem dMo_findSet_11 : decode cMo_findSet 11 = .ok (.istore 5, 2) := by decide +kernel
theorem dMo_findSet_13 : decode cMo_findSet 13 = .ok (.iconst 0, 1) := by decide +kernel
theorem dMo_findSet_14 : decode cMo_findSet 14 = .ok (.istore 6, 2) := by decide +kernel
theorem dMo_findSet_16 : decode cMo_findSet 16 = .ok (.iload 6, 2) := by decide +kernel
theorem dMo_findSet_18 : decode cMo_findSet 18 = .ok (.iconst 5, 1) := by decide +kernel
theorem dMo_findSet_19 : decode cMo_findSet 19 = .ok (.if_icmp .ge 29, 3) := by decide +kernel
theorem dMo_findSet_22 : decode cMo_findSet 22 = .ok (.iload_n 2, 1) := by decide +kernel
theorem dMo_findSet_23 : decode cMo_findSet 23 = .ok (.iload 6, 2) := by decide +kernel
theorem dMo_findSet_25 : decode cMo_findSet 25 = .ok (.ishr, 1) := by decide +kernel
theorem dMo_findSet_26 : decode cMo_findSet 26 = .ok (.iconst 1, 1) := by decide +kernel
theorem dMo_findSet_27 : decode cMo_findSet 27 = .ok (.iand, 1) := by decide +kernel
theorem dMo_findSet_28 : decode cMo_findSet 28 = .ok (.iconst 1, 1) := by decide +kernel
theorem dMo_findSet_29 : decode cMo_findSet 29 = .ok (.if_icmp .ne 13, 3) := by decide +kernel
theorem dMo_findSet_32 : decode cMo_findSet 32 = .ok (.iinc 5 1, 3) := by decide +kernel
theorem dMo_findSet_35 : decode cMo_findSet 35 = .ok (.iload 4, 2) := by decide +kernel
theorem dMo_findSet_37 : decode cMo_findSet 37 = .ok (.iload 5, 2) := by decide +kernel
theorem dMo_findSet_39 : decode cMo_findSet 39 = .ok (.imul, 1) := by decide +kernel
theorem dMo_findSet_40 : decode cMo_findSet 40 = .ok (.istore 4, 2) := by decide +kernel
theorem dMo_findSet_42 : decode cMo_findSet 42 = .ok (.iinc 6 1, 3) := by decide +kernel
theorem dMo_findSet_45 : decode cMo_findSet 45 = .ok (.goto (-29), 3) := by decide +kernel
theorem dMo_findSet_48 : decode cMo_findSet 48 = .ok (.aload_n 0, 1) := by decide +kernel
theorem dMo_findSet_49 : decode cMo_findSet 49 = .ok (.getfield 91, 3) := by decide +kernel
theorem dMo_findSet_52 : decode cMo_findSet 52 = .ok (.iload_n 3, 1) := by decide +kernel
theorem dMo_findSet_53 : decode cMo_findSet 53 = .ok (.iconst (-1), 1) := by decide +kernel
theorem dMo_findSet_54 : decode cMo_findSet 54 = .ok (.iastore, 1) := by decide +kernel
theorem dMo_findSet_55 : decode cMo_findSet 55 = .ok (.iconst 0, 1) := by decide +kernel
theorem dMo_findSet_56 : decode cMo_findSet 56 = .ok (.istore 6, 2) := by decide +kernel
theorem dMo_findSet_58 : decode cMo_findSet 58 = .ok (.iload 6, 2) := by decide +kernel
theorem dMo_findSet_60 : decode cMo_findSet 60 = .ok (.iload 4, 2) := by decide +kernel
theorem dMo_findSet_62 : decode cMo_findSet 62 = .ok (.if_icmp .ge 192, 3) := by decide +kernel
theorem dMo_findSet_65 : decode cMo_findSet 65 = .ok (.aload_n 0, 1) := by decide +kernel
theorem dMo_findSet_66 : decode cMo_findSet 66 = .ok (.iload_n 1, 1) := by decide +kernel
theorem dMo_findSet_67 : decode cMo_findSet 67 = .ok (.iload_n 2, 1) := by decide +kernel
theorem dMo_findSet_68 : decode cMo_findSet 68 = .ok (.iload 6, 2) := by decide +kernel
theorem dMo_findSet_70 : decode cMo_findSet 70 = .ok (.invokevirtual 114, 3) := by decide +kernel
theorem dMo_findSet_73 : decode cMo_findSet 73 = .ok (.istore 7, 2) := by decide +kernel
theorem dMo_findSet_75 : decode cMo_findSet 75 = .ok (.iload 7, 2) := by decide +kernel
theorem dMo_findSet_77 : decode cMo_findSet 77 = .ok (.ifCond .lt 27, 3) := by decide +kernel
theorem dMo_findSet_80 : decode cMo_findSet 80 = .ok (.aload_n 0, 1) := by decide +kernel
theorem dMo_findSet_81 : decode cMo_findSet 81 = .ok (.getfield 91, 3) := by decide +kernel
theorem dMo_findSet_84 : decode cMo_findSet 84 = .ok (.iload_n 3, 1) := by decide +kernel
theorem dMo_findSet_85 : decode cMo_findSet 85 = .ok (.iaload, 1) := by decide +kernel
theorem dMo_findSet_86 : decode cMo_findSet 86 = .ok (.ifCond .lt 14, 3) := by decide +kernel
theorem dMo_findSet_89 : decode cMo_findSet 89 = .ok (.iload 7, 2) := by decide +kernel
theorem dMo_findSet_91 : decode cMo_findSet 91 = .ok (.aload_n 0, 1) := by decide +kernel
theorem dMo_findSet_92 : decode cMo_findSet 92 = .ok (.getfield 91, 3) := by decide +kernel
theorem dMo_findSet_95 : decode cMo_findSet 95 = .ok (.iload_n 3, 1) := by decide +kernel
theorem dMo_findSet_96 : decode cMo_findSet 96 = .ok (.iaload, 1) := by decide +kernel
theorem dMo_findSet_97 : decode cMo_findSet 97 = .ok (.if_icmp .ge 7, 3) := by decide +kernel
theorem dMo_findSet_100 : decode cMo_findSet 100 = .ok (.iconst 1, 1) := by decide +kernel
theorem dMo_findSet_101 : decode cMo_findSet 101 = .ok (.goto 4, 3) := by decide +kernel
theorem dMo_findSet_104 : decode cMo_findSet 104 = .ok (.iconst 0, 1) := by decide +kernel
theorem dMo_findSet_105 : decode cMo_findSet 105 = .ok (.istore 8, 2) := by decide +kernel
theorem dMo_findSet_107 : decode cMo_findSet 107 = .ok (.iload 7, 2) := by decide +kernel
theorem dMo_findSet_109 : decode cMo_findSet 109 = .ok (.ifCond .lt 93, 3) := by decide +kernel
theorem dMo_findSet_112 : decode cMo_findSet 112 = .ok (.iload 7, 2) := by decide +kernel
theorem dMo_findSet_114 : decode cMo_findSet 114 = .ok (.aload_n 0, 1) := by decide +kernel
theorem dMo_findSet_115 : decode cMo_findSet 115 = .ok (.getfield 91, 3) := by decide +kernel
theorem dMo_findSet_118 : decode cMo_findSet 118 = .ok (.iload_n 3, 1) := by decide +kernel
theorem dMo_findSet_119 : decode cMo_findSet 119 = .ok (.iaload, 1) := by decide +kernel
theorem dMo_findSet_120 : decode cMo_findSet 120 = .ok (.if_icmp .ne 82, 3) := by decide +kernel
theorem dMo_findSet_123 : decode cMo_findSet 123 = .ok (.iconst 0, 1) := by decide +kernel
theorem dMo_findSet_124 : decode cMo_findSet 124 = .ok (.istore 9, 2) := by decide +kernel
theorem dMo_findSet_126 : decode cMo_findSet 126 = .ok (.iload 9, 2) := by decide +kernel
theorem dMo_findSet_128 : decode cMo_findSet 128 = .ok (.iconst 5, 1) := by decide +kernel
theorem dMo_findSet_129 : decode cMo_findSet 129 = .ok (.if_icmp .ge 39, 3) := by decide +kernel
theorem dMo_findSet_132 : decode cMo_findSet 132 = .ok (.iload_n 2, 1) := by decide +kernel
theorem dMo_findSet_133 : decode cMo_findSet 133 = .ok (.iload 9, 2) := by decide +kernel
theorem dMo_findSet_135 : decode cMo_findSet 135 = .ok (.ishr, 1) := by decide +kernel
theorem dMo_findSet_136 : decode cMo_findSet 136 = .ok (.iconst 1, 1) := by decide +kernel
theorem dMo_findSet_137 : decode cMo_findSet 137 = .ok (.iand, 1) := by decide +kernel
theorem dMo_findSet_138 : decode cMo_findSet 138 = .ok (.ifCond .eq 24, 3) := by decide +kernel
theorem dMo_findSet_141 : decode cMo_findSet 141 = .ok (.aload_n 0, 1) := by decide +kernel
theorem dMo_findSet_142 : decode cMo_findSet 142 = .ok (.getfield 97, 3) := by decide +kernel
theorem dMo_findSet_145 : decode cMo_findSet 145 = .ok (.iload 9, 2) := by decide +kernel
theorem dMo_findSet_147 : decode cMo_findSet 147 = .ok (.iaload, 1) := by decide +kernel
theorem dMo_findSet_148 : decode cMo_findSet 148 = .ok (.aload_n 0, 1) := by decide +kernel
theorem dMo_findSet_149 : decode cMo_findSet 149 = .ok (.getfield 94, 3) := by decide +kernel
theorem dMo_findSet_152 : decode cMo_findSet 152 = .ok (.iconst 5, 1) := by decide +kernel
theorem dMo_findSet_153 : decode cMo_findSet 153 = .ok (.iload_n 3, 1) := by decide +kernel
theorem dMo_findSet_154 : decode cMo_findSet 154 = .ok (.imul, 1) := by decide +kernel
theorem dMo_findSet_155 : decode cMo_findSet 155 = .ok (.iload 9, 2) := by decide +kernel
theorem dMo_findSet_157 : decode cMo_findSet 157 = .ok (.iadd, 1) := by decide +kernel
theorem dMo_findSet_158 : decode cMo_findSet 158 = .ok (.iaload, 1) := by decide +kernel
theorem dMo_findSet_159 : decode cMo_findSet 159 = .ok (.if_icmp .ne 9, 3) := by decide +kernel
theorem dMo_findSet_162 : decode cMo_findSet 162 = .ok (.iinc 9 1, 3) := by decide +kernel
theorem dMo_findSet_165 : decode cMo_findSet 165 = .ok (.goto (-39), 3) := by decide +kernel
theorem dMo_findSet_168 : decode cMo_findSet 168 = .ok (.iload 9, 2) := by decide +kernel
theorem dMo_findSet_170 : decode cMo_findSet 170 = .ok (.iconst 5, 1) := by decide +kernel
theorem dMo_findSet_171 : decode cMo_findSet 171 = .ok (.if_icmp .ge 28, 3) := by decide +kernel
theorem dMo_findSet_174 : decode cMo_findSet 174 = .ok (.aload_n 0, 1) := by decide +kernel
theorem dMo_findSet_175 : decode cMo_findSet 175 = .ok (.getfield 97, 3) := by decide +kernel
theorem dMo_findSet_178 : decode cMo_findSet 178 = .ok (.iload 9, 2) := by decide +kernel
theorem dMo_findSet_180 : decode cMo_findSet 180 = .ok (.iaload, 1) := by decide +kernel
theorem dMo_findSet_181 : decode cMo_findSet 181 = .ok (.aload_n 0, 1) := by decide +kernel
theorem dMo_findSet_182 : decode cMo_findSet 182 = .ok (.getfield 94, 3) := by decide +kernel
theorem dMo_findSet_185 : decode cMo_findSet 185 = .ok (.iconst 5, 1) := by decide +kernel
theorem dMo_findSet_186 : decode cMo_findSet 186 = .ok (.iload_n 3, 1) := by decide +kernel
theorem dMo_findSet_187 : decode cMo_findSet 187 = .ok (.imul, 1) := by decide +kernel
theorem dMo_findSet_188 : decode cMo_findSet 188 = .ok (.iload 9, 2) := by decide +kernel
theorem dMo_findSet_190 : decode cMo_findSet 190 = .ok (.iadd, 1) := by decide +kernel
theorem dMo_findSet_191 : decode cMo_findSet 191 = .ok (.iaload, 1) := by decide +kernel
theorem dMo_findSet_192 : decode cMo_findSet 192 = .ok (.if_icmp .ge 7, 3) := by decide +kernel
theorem dMo_findSet_195 : decode cMo_findSet 195 = .ok (.iconst 1, 1) := by decide +kernel
theorem dMo_findSet_196 : decode cMo_findSet 196 = .ok (.goto 4, 3) := by decide +kernel
theorem dMo_findSet_199 : decode cMo_findSet 199 = .ok (.iconst 0, 1) := by decide +kernel
theorem dMo_findSet_200 : decode cMo_findSet 200 = .ok (.istore 8, 2) := by decide +kernel
theorem dMo_findSet_202 : decode cMo_findSet 202 = .ok (.iload 8, 2) := by decide +kernel
theorem dMo_findSet_204 : decode cMo_findSet 204 = .ok (.ifCond .eq 44, 3) := by decide +kernel
theorem dMo_findSet_207 : decode cMo_findSet 207 = .ok (.aload_n 0, 1) := by decide +kernel
theorem dMo_findSet_208 : decode cMo_findSet 208 = .ok (.getfield 91, 3) := by decide +kernel
theorem dMo_findSet_211 : decode cMo_findSet 211 = .ok (.iload_n 3, 1) := by decide +kernel
theorem dMo_findSet_212 : decode cMo_findSet 212 = .ok (.iload 7, 2) := by decide +kernel
theorem dMo_findSet_214 : decode cMo_findSet 214 = .ok (.iastore, 1) := by decide +kernel
theorem dMo_findSet_215 : decode cMo_findSet 215 = .ok (.iconst 0, 1) := by decide +kernel
theorem dMo_findSet_216 : decode cMo_findSet 216 = .ok (.istore 9, 2) := by decide +kernel
theorem dMo_findSet_218 : decode cMo_findSet 218 = .ok (.iload 9, 2) := by decide +kernel
theorem dMo_findSet_220 : decode cMo_findSet 220 = .ok (.iconst 5, 1) := by decide +kernel
theorem dMo_findSet_221 : decode cMo_findSet 221 = .ok (.if_icmp .ge 27, 3) := by decide +kernel
theorem dMo_findSet_224 : decode cMo_findSet 224 = .ok (.aload_n 0, 1) := by decide +kernel
theorem dMo_findSet_225 : decode cMo_findSet 225 = .ok (.getfield 94, 3) := by decide +kernel
theorem dMo_findSet_228 : decode cMo_findSet 228 = .ok (.iconst 5, 1) := by decide +kernel
theorem dMo_findSet_229 : decode cMo_findSet 229 = .ok (.iload_n 3, 1) := by decide +kernel
theorem dMo_findSet_230 : decode cMo_findSet 230 = .ok (.imul, 1) := by decide +kernel
theorem dMo_findSet_231 : decode cMo_findSet 231 = .ok (.iload 9, 2) := by decide +kernel
theorem dMo_findSet_233 : decode cMo_findSet 233 = .ok (.iadd, 1) := by decide +kernel
theorem dMo_findSet_234 : decode cMo_findSet 234 = .ok (.aload_n 0, 1) := by decide +kernel
theorem dMo_findSet_235 : decode cMo_findSet 235 = .ok (.getfield 97, 3) := by decide +kernel
theorem dMo_findSet_238 : decode cMo_findSet 238 = .ok (.iload 9, 2) := by decide +kernel
theorem dMo_findSet_240 : decode cMo_findSet 240 = .ok (.iaload, 1) := by decide +kernel
theorem dMo_findSet_241 : decode cMo_findSet 241 = .ok (.iastore, 1) := by decide +kernel
theorem dMo_findSet_242 : decode cMo_findSet 242 = .ok (.iinc 9 1, 3) := by decide +kernel
theorem dMo_findSet_245 : decode cMo_findSet 245 = .ok (.goto (-27), 3) := by decide +kernel
theorem dMo_findSet_248 : decode cMo_findSet 248 = .ok (.iinc 6 1, 3) := by decide +kernel
theorem dMo_findSet_251 : decode cMo_findSet 251 = .ok (.goto (-193), 3) := by decide +kernel
theorem dMo_findSet_254 : decode cMo_findSet 254 = .ok (.return_, 1) := by decide +kernel
abbrev cMo_exactly : ByteArray := prog_7_method_8_code
abbrev mMo_exactly : MD := (⟨"DockBookModel", "exactly", "()V"⟩, cMo_exactly, 7, none, [])
theorem dMo_exactly_0 : decode cMo_exactly 0 = .ok (.iconst 0, 1) := by decide +kernel
theorem dMo_exactly_1 : decode cMo_exactly 1 = .ok (.istore_n 1, 1) := by decide +kernel
theorem dMo_exactly_2 : decode cMo_exactly 2 = .ok (.iload_n 1, 1) := by decide +kernel
theorem dMo_exactly_3 : decode cMo_exactly 3 = .ok (.aload_n 0, 1) := by decide +kernel
theorem dMo_exactly_4 : decode cMo_exactly 4 = .ok (.getfield 16, 3) := by decide +kernel
theorem dMo_exactly_7 : decode cMo_exactly 7 = .ok (.if_icmp .ge 33, 3) := by decide +kernel
theorem dMo_exactly_10 : decode cMo_exactly 10 = .ok (.iconst 0, 1) := by decide +kernel
theorem dMo_exactly_11 : decode cMo_exactly 11 = .ok (.istore_n 2, 1) := by decide +kernel
theorem dMo_exactly_12 : decode cMo_exactly 12 = .ok (.iload_n 2, 1) := by decide +kernel
theorem dMo_exactly_13 : decode cMo_exactly 13 = .ok (.iconst 1, 1) := by decide +kernel
theorem dMo_exactly_14 : decode cMo_exactly 14 = .ok (.aload_n 0, 1) := by decide +kernel
theorem dMo_exactly_15 : decode cMo_exactly 15 = .ok (.getfield 79, 3) := by decide +kernel
theorem dMo_exactly_18 : decode cMo_exactly 18 = .ok (.ishl, 1) := by decide +kernel
theorem dMo_exactly_19 : decode cMo_exactly 19 = .ok (.if_icmp .ge 15, 3) := by decide +kernel
theorem dMo_exactly_22 : decode cMo_exactly 22 = .ok (.aload_n 0, 1) := by decide +kernel
theorem dMo_exactly_23 : decode cMo_exactly 23 = .ok (.iload_n 1, 1) := by decide +kernel
theorem dMo_exactly_24 : decode cMo_exactly 24 = .ok (.iload_n 2, 1) := by decide +kernel
theorem dMo_exactly_25 : decode cMo_exactly 25 = .ok (.invokevirtual 117, 3) := by decide +kernel
theorem dMo_exactly_28 : decode cMo_exactly 28 = .ok (.iinc 2 1, 3) := by decide +kernel
theorem dMo_exactly_31 : decode cMo_exactly 31 = .ok (.goto (-19), 3) := by decide +kernel
theorem dMo_exactly_34 : decode cMo_exactly 34 = .ok (.iinc 1 1, 3) := by decide +kernel
theorem dMo_exactly_37 : decode cMo_exactly 37 = .ok (.goto (-35), 3) := by decide +kernel
theorem dMo_exactly_40 : decode cMo_exactly 40 = .ok (.iconst 1, 1) := by decide +kernel
theorem dMo_exactly_41 : decode cMo_exactly 41 = .ok (.istore_n 1, 1) := by decide +kernel
theorem dMo_exactly_42 : decode cMo_exactly 42 = .ok (.iconst 0, 1) := by decide +kernel
theorem dMo_exactly_43 : decode cMo_exactly 43 = .ok (.istore_n 2, 1) := by decide +kernel
theorem dMo_exactly_44 : decode cMo_exactly 44 = .ok (.iload_n 2, 1) := by decide +kernel
theorem dMo_exactly_45 : decode cMo_exactly 45 = .ok (.aload_n 0, 1) := by decide +kernel
theorem dMo_exactly_46 : decode cMo_exactly 46 = .ok (.getfield 79, 3) := by decide +kernel
theorem dMo_exactly_49 : decode cMo_exactly 49 = .ok (.if_icmp .ge 13, 3) := by decide +kernel
theorem dMo_exactly_52 : decode cMo_exactly 52 = .ok (.iload_n 1, 1) := by decide +kernel
theorem dMo_exactly_53 : decode cMo_exactly 53 = .ok (.iconst 5, 1) := by decide +kernel
theorem dMo_exactly_54 : decode cMo_exactly 54 = .ok (.imul, 1) := by decide +kernel
theorem dMo_exactly_55 : decode cMo_exactly 55 = .ok (.istore_n 1, 1) := by decide +kernel
theorem dMo_exactly_56 : decode cMo_exactly 56 = .ok (.iinc 2 1, 3) := by decide +kernel
theorem dMo_exactly_59 : decode cMo_exactly 59 = .ok (.goto (-15), 3) := by decide +kernel
theorem dMo_exactly_62 : decode cMo_exactly 62 = .ok (.iconst (-1), 1) := by decide +kernel
theorem dMo_exactly_63 : decode cMo_exactly 63 = .ok (.istore_n 2, 1) := by decide +kernel
theorem dMo_exactly_64 : decode cMo_exactly 64 = .ok (.iconst 0, 1) := by decide +kernel
theorem dMo_exactly_65 : decode cMo_exactly 65 = .ok (.istore_n 3, 1) := by decide +kernel
theorem dMo_exactly_66 : decode cMo_exactly 66 = .ok (.iconst 0, 1) := by decide +kernel
theorem dMo_exactly_67 : decode cMo_exactly 67 = .ok (.istore 4, 2) := by decide +kernel
theorem dMo_exactly_69 : decode cMo_exactly 69 = .ok (.iload 4, 2) := by decide +kernel
theorem dMo_exactly_71 : decode cMo_exactly 71 = .ok (.iload_n 1, 1) := by decide +kernel
theorem dMo_exactly_72 : decode cMo_exactly 72 = .ok (.if_icmp .ge 38, 3) := by decide +kernel
theorem dMo_exactly_75 : decode cMo_exactly 75 = .ok (.aload_n 0, 1) := by decide +kernel
theorem dMo_exactly_76 : decode cMo_exactly 76 = .ok (.iload 4, 2) := by decide +kernel
theorem dMo_exactly_78 : decode cMo_exactly 78 = .ok (.invokevirtual 121, 3) := by decide +kernel
theorem dMo_exactly_81 : decode cMo_exactly 81 = .ok (.istore 5, 2) := by decide +kernel
theorem dMo_exactly_83 : decode cMo_exactly 83 = .ok (.iload 5, 2) := by decide +kernel
theorem dMo_exactly_85 : decode cMo_exactly 85 = .ok (.ifCond .lt 19, 3) := by decide +kernel
theorem dMo_exactly_88 : decode cMo_exactly 88 = .ok (.iload_n 2, 1) := by decide +kernel
theorem dMo_exactly_89 : decode cMo_exactly 89 = .ok (.ifCond .lt 9, 3) := by decide +kernel
theorem dMo_exactly_92 : decode cMo_exactly 92 = .ok (.iload 5, 2) := by decide +kernel
theorem dMo_exactly_94 : decode cMo_exactly 94 = .ok (.iload_n 3, 1) := by decide +kernel
theorem dMo_exactly_95 : decode cMo_exactly 95 = .ok (.if_icmp .ge 9, 3) := by decide +kernel
theorem dMo_exactly_98 : decode cMo_exactly 98 = .ok (.iload 4, 2) := by decide +kernel
theorem dMo_exactly_100 : decode cMo_exactly 100 = .ok (.istore_n 2, 1) := by decide +kernel
theorem dMo_exactly_101 : decode cMo_exactly 101 = .ok (.iload 5, 2) := by decide +kernel
theorem dMo_exactly_103 : decode cMo_exactly 103 = .ok (.istore_n 3, 1) := by decide +kernel
theorem dMo_exactly_104 : decode cMo_exactly 104 = .ok (.iinc 4 1, 3) := by decide +kernel
theorem dMo_exactly_107 : decode cMo_exactly 107 = .ok (.goto (-38), 3) := by decide +kernel
theorem dMo_exactly_110 : decode cMo_exactly 110 = .ok (.iload_n 2, 1) := by decide +kernel
theorem dMo_exactly_111 : decode cMo_exactly 111 = .ok (.istore 4, 2) := by decide +kernel
theorem dMo_exactly_113 : decode cMo_exactly 113 = .ok (.aload_n 0, 1) := by decide +kernel
theorem dMo_exactly_114 : decode cMo_exactly 114 = .ok (.getfield 79, 3) := by decide +kernel
theorem dMo_exactly_117 : decode cMo_exactly 117 = .ok (.iconst 1, 1) := by decide +kernel
theorem dMo_exactly_118 : decode cMo_exactly 118 = .ok (.isub, 1) := by decide +kernel
theorem dMo_exactly_119 : decode cMo_exactly 119 = .ok (.istore 5, 2) := by decide +kernel
theorem dMo_exactly_121 : decode cMo_exactly 121 = .ok (.iload 5, 2) := by decide +kernel
theorem dMo_exactly_123 : decode cMo_exactly 123 = .ok (.ifCond .lt 40, 3) := by decide +kernel
theorem dMo_exactly_126 : decode cMo_exactly 126 = .ok (.iload 4, 2) := by decide +kernel
theorem dMo_exactly_128 : decode cMo_exactly 128 = .ok (.iconst 5, 1) := by decide +kernel
theorem dMo_exactly_129 : decode cMo_exactly 129 = .ok (.irem, 1) := by decide +kernel
theorem dMo_exactly_130 : decode cMo_exactly 130 = .ok (.istore 6, 2) := by decide +kernel
theorem dMo_exactly_132 : decode cMo_exactly 132 = .ok (.iload 4, 2) := by decide +kernel
theorem dMo_exactly_134 : decode cMo_exactly 134 = .ok (.iconst 5, 1) := by decide +kernel
theorem dMo_exactly_135 : decode cMo_exactly 135 = .ok (.idiv, 1) := by decide +kernel
theorem dMo_exactly_136 : decode cMo_exactly 136 = .ok (.istore 4, 2) := by decide +kernel
theorem dMo_exactly_138 : decode cMo_exactly 138 = .ok (.aload_n 0, 1) := by decide +kernel
theorem dMo_exactly_139 : decode cMo_exactly 139 = .ok (.getfield 85, 3) := by decide +kernel
theorem dMo_exactly_142 : decode cMo_exactly 142 = .ok (.iload 5, 2) := by decide +kernel
theorem dMo_exactly_144 : decode cMo_exactly 144 = .ok (.iload 6, 2) := by decide +kernel
theorem dMo_exactly_146 : decode cMo_exactly 146 = .ok (.iconst 4, 1) := by decide +kernel
theorem dMo_exactly_147 : decode cMo_exactly 147 = .ok (.if_icmp .ne 7, 3) := by decide +kernel
theorem dMo_exactly_150 : decode cMo_exactly 150 = .ok (.iconst (-1), 1) := by decide +kernel
theorem dMo_exactly_151 : decode cMo_exactly 151 = .ok (.goto 5, 3) := by decide +kernel
theorem dMo_exactly_154 : decode cMo_exactly 154 = .ok (.iload 6, 2) := by decide +kernel
theorem dMo_exactly_156 : decode cMo_exactly 156 = .ok (.iastore, 1) := by decide +kernel
theorem dMo_exactly_157 : decode cMo_exactly 157 = .ok (.iinc 5 (-1), 3) := by decide +kernel
theorem dMo_exactly_160 : decode cMo_exactly 160 = .ok (.goto (-39), 3) := by decide +kernel
theorem dMo_exactly_163 : decode cMo_exactly 163 = .ok (.iconst 0, 1) := by decide +kernel
theorem dMo_exactly_164 : decode cMo_exactly 164 = .ok (.istore 5, 2) := by decide +kernel
theorem dMo_exactly_166 : decode cMo_exactly 166 = .ok (.iload 5, 2) := by decide +kernel
theorem dMo_exactly_168 : decode cMo_exactly 168 = .ok (.aload_n 0, 1) := by decide +kernel
theorem dMo_exactly_169 : decode cMo_exactly 169 = .ok (.getfield 79, 3) := by decide +kernel
theorem dMo_exactly_172 : decode cMo_exactly 172 = .ok (.if_icmp .ge 62, 3) := by decide +kernel
theorem dMo_exactly_175 : decode cMo_exactly 175 = .ok (.aload_n 0, 1) := by decide +kernel
theorem dMo_exactly_176 : decode cMo_exactly 176 = .ok (.getfield 88, 3) := by decide +kernel
theorem dMo_exactly_179 : decode cMo_exactly 179 = .ok (.iload 5, 2) := by decide +kernel
theorem dMo_exactly_181 : decode cMo_exactly 181 = .ok (.aload_n 0, 1) := by decide +kernel
theorem dMo_exactly_182 : decode cMo_exactly 182 = .ok (.getfield 85, 3) := by decide +kernel
theorem dMo_exactly_185 : decode cMo_exactly 185 = .ok (.iload 5, 2) := by decide +kernel
theorem dMo_exactly_187 : decode cMo_exactly 187 = .ok (.iaload, 1) := by decide +kernel
theorem dMo_exactly_188 : decode cMo_exactly 188 = .ok (.ifCond .ge 7, 3) := by decide +kernel
theorem dMo_exactly_191 : decode cMo_exactly 191 = .ok (.iconst (-1), 1) := by decide +kernel
theorem dMo_exactly_192 : decode cMo_exactly 192 = .ok (.goto 35, 3) := by decide +kernel
theorem dMo_exactly_195 : decode cMo_exactly 195 = .ok (.aload_n 0, 1) := by decide +kernel
theorem dMo_exactly_196 : decode cMo_exactly 196 = .ok (.getfield 94, 3) := by decide +kernel
theorem dMo_exactly_199 : decode cMo_exactly 199 = .ok (.iconst 5, 1) := by decide +kernel
theorem dMo_exactly_200 : decode cMo_exactly 200 = .ok (.bipush 32, 2) := by decide +kernel
theorem dMo_exactly_202 : decode cMo_exactly 202 = .ok (.aload_n 0, 1) := by decide +kernel
theorem dMo_exactly_203 : decode cMo_exactly 203 = .ok (.getfield 85, 3) := by decide +kernel
theorem dMo_exactly_206 : decode cMo_exactly 206 = .ok (.iload 5, 2) := by decide +kernel
theorem dMo_exactly_208 : decode cMo_exactly 208 = .ok (.iaload, 1) := by decide +kernel
theorem dMo_exactly_209 : decode cMo_exactly 209 = .ok (.imul, 1) := by decide +kernel
theorem dMo_exactly_210 : decode cMo_exactly 210 = .ok (.aload_n 0, 1) := by decide +kernel
theorem dMo_exactly_211 : decode cMo_exactly 211 = .ok (.aload_n 0, 1) := by decide +kernel
theorem dMo_exactly_212 : decode cMo_exactly 212 = .ok (.getfield 85, 3) := by decide +kernel
theorem dMo_exactly_215 : decode cMo_exactly 215 = .ok (.iload 5, 2) := by decide +kernel
theorem dMo_exactly_217 : decode cMo_exactly 217 = .ok (.iaload, 1) := by decide +kernel
theorem dMo_exactly_218 : decode cMo_exactly 218 = .ok (.invokevirtual 124, 3) := by decide +kernel
theorem dMo_exactly_221 : decode cMo_exactly 221 = .ok (.iadd, 1) := by decide +kernel
theorem dMo_exactly_222 : decode cMo_exactly 222 = .ok (.imul, 1) := by decide +kernel
theorem dMo_exactly_223 : decode cMo_exactly 223 = .ok (.iload 5, 2) := by decide +kernel
theorem dMo_exactly_225 : decode cMo_exactly 225 = .ok (.iadd, 1) := by decide +kernel
theorem dMo_exactly_226 : decode cMo_exactly 226 = .ok (.iaload, 1) := by decide +kernel
theorem dMo_exactly_227 : decode cMo_exactly 227 = .ok (.iastore, 1) := by decide +kernel
theorem dMo_exactly_228 : decode cMo_exactly 228 = .ok (.iinc 5 1, 3) := by decide +kernel
theorem dMo_exactly_231 : decode cMo_exactly 231 = .ok (.goto (-65), 3) := by decide +kernel
theorem dMo_exactly_234 : decode cMo_exactly 234 = .ok (.return_, 1) := by decide +kernel
abbrev cMo_setOf : ByteArray := prog_7_method_9_code
abbrev mMo_setOf : MD := (⟨"DockBookModel", "setOf", "(I)I"⟩, cMo_setOf, 4, some (.int), [])
theorem dMo_setOf_0 : decode cMo_setOf 0 = .ok (.iconst 0, 1) := by decide +kernel
theorem dMo_setOf_1 : decode cMo_setOf 1 = .ok (.istore_n 2, 1) := by decide +kernel
theorem dMo_setOf_2 : decode cMo_setOf 2 = .ok (.iconst 0, 1) := by decide +kernel
theorem dMo_setOf_3 : decode cMo_setOf 3 = .ok (.istore_n 3, 1) := by decide +kernel
theorem dMo_setOf_4 : decode cMo_setOf 4 = .ok (.iload_n 3, 1) := by decide +kernel
theorem dMo_setOf_5 : decode cMo_setOf 5 = .ok (.aload_n 0, 1) := by decide +kernel
theorem dMo_setOf_6 : decode cMo_setOf 6 = .ok (.getfield 79, 3) := by decide +kernel
theorem dMo_setOf_9 : decode cMo_setOf 9 = .ok (.if_icmp .ge 29, 3) := by decide +kernel
theorem dMo_setOf_12 : decode cMo_setOf 12 = .ok (.aload_n 0, 1) := by decide +kernel
theorem dMo_setOf_13 : decode cMo_setOf 13 = .ok (.getfield 85, 3) := by decide +kernel
theorem dMo_setOf_16 : decode cMo_setOf 16 = .ok (.iload_n 3, 1) := by decide +kernel
theorem dMo_setOf_17 : decode cMo_setOf 17 = .ok (.iaload, 1) := by decide +kernel
theorem dMo_setOf_18 : decode cMo_setOf 18 = .ok (.iload_n 1, 1) := by decide +kernel
theorem dMo_setOf_19 : decode cMo_setOf 19 = .ok (.if_icmp .ne 11, 3) := by decide +kernel
theorem dMo_setOf_22 : decode cMo_setOf 22 = .ok (.iload_n 2, 1) := by decide +kernel
theorem dMo_setOf_23 : decode cMo_setOf 23 = .ok (.iconst 1, 1) := by decide +kernel
theorem dMo_setOf_24 : decode cMo_setOf 24 = .ok (.iload_n 3, 1) := by decide +kernel
theorem dMo_setOf_25 : decode cMo_setOf 25 = .ok (.ishl, 1) := by decide +kernel
theorem dMo_setOf_26 : decode cMo_setOf 26 = .ok (.ior, 1) := by decide +kernel
theorem dMo_setOf_27 : decode cMo_setOf 27 = .ok (.goto 4, 3) := by decide +kernel
theorem dMo_setOf_30 : decode cMo_setOf 30 = .ok (.iload_n 2, 1) := by decide +kernel
theorem dMo_setOf_31 : decode cMo_setOf 31 = .ok (.istore_n 2, 1) := by decide +kernel
theorem dMo_setOf_32 : decode cMo_setOf 32 = .ok (.iinc 3 1, 3) := by decide +kernel
theorem dMo_setOf_35 : decode cMo_setOf 35 = .ok (.goto (-31), 3) := by decide +kernel
theorem dMo_setOf_38 : decode cMo_setOf 38 = .ok (.iload_n 2, 1) := by decide +kernel
theorem dMo_setOf_39 : decode cMo_setOf 39 = .ok (.ireturn, 1) := by decide +kernel
abbrev cMo_costOf : ByteArray := prog_7_method_10_code
abbrev mMo_costOf : MD := (⟨"DockBookModel", "costOf", "(I)I"⟩, cMo_costOf, 6, some (.int), [])
theorem dMo_costOf_0 : decode cMo_costOf 0 = .ok (.iload_n 1, 1) := by decide +kernel
theorem dMo_costOf_1 : decode cMo_costOf 1 = .ok (.istore_n 2, 1) := by decide +kernel
theorem dMo_costOf_2 : decode cMo_costOf 2 = .ok (.iconst 0, 1) := by decide +kernel
theorem dMo_costOf_3 : decode cMo_costOf 3 = .ok (.istore_n 3, 1) := by decide +kernel
theorem dMo_costOf_4 : decode cMo_costOf 4 = .ok (.aload_n 0, 1) := by decide +kernel
theorem dMo_costOf_5 : decode cMo_costOf 5 = .ok (.getfield 79, 3) := by decide +kernel
theorem dMo_costOf_8 : decode cMo_costOf 8 = .ok (.iconst 1, 1) := by decide +kernel
theorem dMo_costOf_9 : decode cMo_costOf 9 = .ok (.isub, 1) := by decide +kernel
theorem dMo_costOf_10 : decode cMo_costOf 10 = .ok (.istore 4, 2) := by decide +kernel
theorem dMo_costOf_12 : decode cMo_costOf 12 = .ok (.iload 4, 2) := by decide +kernel
theorem dMo_costOf_14 : decode cMo_costOf 14 = .ok (.ifCond .lt 70, 3) := by decide +kernel
theorem dMo_costOf_17 : decode cMo_costOf 17 = .ok (.iload_n 2, 1) := by decide +kernel
theorem dMo_costOf_18 : decode cMo_costOf 18 = .ok (.iconst 5, 1) := by decide +kernel
theorem dMo_costOf_19 : decode cMo_costOf 19 = .ok (.irem, 1) := by decide +kernel
theorem dMo_costOf_20 : decode cMo_costOf 20 = .ok (.istore 5, 2) := by decide +kernel
theorem dMo_costOf_22 : decode cMo_costOf 22 = .ok (.iload_n 2, 1) := by decide +kernel
theorem dMo_costOf_23 : decode cMo_costOf 23 = .ok (.iconst 5, 1) := by decide +kernel
theorem dMo_costOf_24 : decode cMo_costOf 24 = .ok (.idiv, 1) := by decide +kernel
theorem dMo_costOf_25 : decode cMo_costOf 25 = .ok (.istore_n 2, 1) := by decide +kernel
theorem dMo_costOf_26 : decode cMo_costOf 26 = .ok (.iload 5, 2) := by decide +kernel
theorem dMo_costOf_28 : decode cMo_costOf 28 = .ok (.iconst 4, 1) := by decide +kernel
theorem dMo_costOf_29 : decode cMo_costOf 29 = .ok (.if_icmp .ge 14, 3) := by decide +kernel
theorem dMo_costOf_32 : decode cMo_costOf 32 = .ok (.iload 5, 2) := by decide +kernel
theorem dMo_costOf_34 : decode cMo_costOf 34 = .ok (.aload_n 0, 1) := by decide +kernel
theorem dMo_costOf_35 : decode cMo_costOf 35 = .ok (.getfield 16, 3) := by decide +kernel
theorem dMo_costOf_38 : decode cMo_costOf 38 = .ok (.if_icmp .lt 5, 3) := by decide +kernel
theorem dMo_costOf_41 : decode cMo_costOf 41 = .ok (.iconst (-1), 1) := by decide +kernel
theorem dMo_costOf_42 : decode cMo_costOf 42 = .ok (.ireturn, 1) := by decide +kernel
theorem dMo_costOf_43 : decode cMo_costOf 43 = .ok (.aload_n 0, 1) := by decide +kernel
theorem dMo_costOf_44 : decode cMo_costOf 44 = .ok (.getfield 85, 3) := by decide +kernel
theorem dMo_costOf_47 : decode cMo_costOf 47 = .ok (.iload 4, 2) := by decide +kernel
theorem dMo_costOf_49 : decode cMo_costOf 49 = .ok (.iload 5, 2) := by decide +kernel
theorem dMo_costOf_51 : decode cMo_costOf 51 = .ok (.iconst 4, 1) := by decide +kernel
theorem dMo_costOf_52 : decode cMo_costOf 52 = .ok (.if_icmp .ne 7, 3) := by decide +kernel
theorem dMo_costOf_55 : decode cMo_costOf 55 = .ok (.iconst (-1), 1) := by decide +kernel
theorem dMo_costOf_56 : decode cMo_costOf 56 = .ok (.goto 5, 3) := by decide +kernel
theorem dMo_costOf_59 : decode cMo_costOf 59 = .ok (.iload 5, 2) := by decide +kernel
theorem dMo_costOf_61 : decode cMo_costOf 61 = .ok (.iastore, 1) := by decide +kernel
theorem dMo_costOf_62 : decode cMo_costOf 62 = .ok (.iload_n 3, 1) := by decide +kernel
theorem dMo_costOf_63 : decode cMo_costOf 63 = .ok (.iload 5, 2) := by decide +kernel
theorem dMo_costOf_65 : decode cMo_costOf 65 = .ok (.iconst 4, 1) := by decide +kernel
theorem dMo_costOf_66 : decode cMo_costOf 66 = .ok (.if_icmp .ne 9, 3) := by decide +kernel
theorem dMo_costOf_69 : decode cMo_costOf 69 = .ok (.sipush 5000, 3) := by decide +kernel
theorem dMo_costOf_72 : decode cMo_costOf 72 = .ok (.goto 4, 3) := by decide +kernel
theorem dMo_costOf_75 : decode cMo_costOf 75 = .ok (.iconst 0, 1) := by decide +kernel
theorem dMo_costOf_76 : decode cMo_costOf 76 = .ok (.iadd, 1) := by decide +kernel
theorem dMo_costOf_77 : decode cMo_costOf 77 = .ok (.istore_n 3, 1) := by decide +kernel
theorem dMo_costOf_78 : decode cMo_costOf 78 = .ok (.iinc 4 (-1), 3) := by decide +kernel
theorem dMo_costOf_81 : decode cMo_costOf 81 = .ok (.goto (-69), 3) := by decide +kernel
theorem dMo_costOf_84 : decode cMo_costOf 84 = .ok (.iconst 0, 1) := by decide +kernel
theorem dMo_costOf_85 : decode cMo_costOf 85 = .ok (.istore 4, 2) := by decide +kernel
theorem dMo_costOf_87 : decode cMo_costOf 87 = .ok (.iload 4, 2) := by decide +kernel
theorem dMo_costOf_89 : decode cMo_costOf 89 = .ok (.aload_n 0, 1) := by decide +kernel
theorem dMo_costOf_90 : decode cMo_costOf 90 = .ok (.getfield 16, 3) := by decide +kernel
theorem dMo_costOf_93 : decode cMo_costOf 93 = .ok (.if_icmp .ge 40, 3) := by decide +kernel
theorem dMo_costOf_96 : decode cMo_costOf 96 = .ok (.aload_n 0, 1) := by decide +kernel
theorem dMo_costOf_97 : decode cMo_costOf 97 = .ok (.getfield 91, 3) := by decide +kernel
theorem dMo_costOf_100 : decode cMo_costOf 100 = .ok (.bipush 32, 2) := by decide +kernel
theorem dMo_costOf_102 : decode cMo_costOf 102 = .ok (.iload 4, 2) := by decide +kernel
theorem dMo_costOf_104 : decode cMo_costOf 104 = .ok (.imul, 1) := by decide +kernel
theorem dMo_costOf_105 : decode cMo_costOf 105 = .ok (.aload_n 0, 1) := by decide +kernel
theorem dMo_costOf_106 : decode cMo_costOf 106 = .ok (.iload 4, 2) := by decide +kernel
theorem dMo_costOf_108 : decode cMo_costOf 108 = .ok (.invokevirtual 124, 3) := by decide +kernel
theorem dMo_costOf_111 : decode cMo_costOf 111 = .ok (.iadd, 1) := by decide +kernel
theorem dMo_costOf_112 : decode cMo_costOf 112 = .ok (.iaload, 1) := by decide +kernel
theorem dMo_costOf_113 : decode cMo_costOf 113 = .ok (.istore 5, 2) := by decide +kernel
theorem dMo_costOf_115 : decode cMo_costOf 115 = .ok (.iload 5, 2) := by decide +kernel
theorem dMo_costOf_117 : decode cMo_costOf 117 = .ok (.ifCond .ge 5, 3) := by decide +kernel
theorem dMo_costOf_120 : decode cMo_costOf 120 = .ok (.iconst (-1), 1) := by decide +kernel
theorem dMo_costOf_121 : decode cMo_costOf 121 = .ok (.ireturn, 1) := by decide +kernel
theorem dMo_costOf_122 : decode cMo_costOf 122 = .ok (.iload_n 3, 1) := by decide +kernel
theorem dMo_costOf_123 : decode cMo_costOf 123 = .ok (.iload 5, 2) := by decide +kernel
theorem dMo_costOf_125 : decode cMo_costOf 125 = .ok (.iadd, 1) := by decide +kernel
theorem dMo_costOf_126 : decode cMo_costOf 126 = .ok (.istore_n 3, 1) := by decide +kernel
theorem dMo_costOf_127 : decode cMo_costOf 127 = .ok (.iinc 4 1, 3) := by decide +kernel
theorem dMo_costOf_130 : decode cMo_costOf 130 = .ok (.goto (-43), 3) := by decide +kernel
theorem dMo_costOf_133 : decode cMo_costOf 133 = .ok (.iload_n 3, 1) := by decide +kernel
theorem dMo_costOf_134 : decode cMo_costOf 134 = .ok (.ireturn, 1) := by decide +kernel
abbrev cMo_ahead : ByteArray := prog_7_method_11_code
abbrev mMo_ahead : MD := (⟨"DockBookModel", "ahead", "(II)Z"⟩, cMo_ahead, 3, some (.boolean), [])
theorem dMo_ahead_0 : decode cMo_ahead 0 = .ok (.aload_n 0, 1) := by decide +kernel
theorem dMo_ahead_1 : decode cMo_ahead 1 = .ok (.getfield 51, 3) := by decide +kernel
theorem dMo_ahead_4 : decode cMo_ahead 4 = .ok (.iload_n 1, 1) := by decide +kernel
theorem dMo_ahead_5 : decode cMo_ahead 5 = .ok (.iaload, 1) := by decide +kernel
theorem dMo_ahead_6 : decode cMo_ahead 6 = .ok (.aload_n 0, 1) := by decide +kernel
theorem dMo_ahead_7 : decode cMo_ahead 7 = .ok (.getfield 51, 3) := by decide +kernel
theorem dMo_ahead_10 : decode cMo_ahead 10 = .ok (.iload_n 2, 1) := by decide +kernel
theorem dMo_ahead_11 : decode cMo_ahead 11 = .ok (.iaload, 1) := by decide +kernel
theorem dMo_ahead_12 : decode cMo_ahead 12 = .ok (.if_icmp .eq 24, 3) := by decide +kernel
theorem dMo_ahead_15 : decode cMo_ahead 15 = .ok (.aload_n 0, 1) := by decide +kernel
theorem dMo_ahead_16 : decode cMo_ahead 16 = .ok (.getfield 51, 3) := by decide +kernel
theorem dMo_ahead_19 : decode cMo_ahead 19 = .ok (.iload_n 1, 1) := by decide +kernel
theorem dMo_ahead_20 : decode cMo_ahead 20 = .ok (.iaload, 1) := by decide +kernel
theorem dMo_ahead_21 : decode cMo_ahead 21 = .ok (.aload_n 0, 1) := by decide +kernel
theorem dMo_ahead_22 : decode cMo_ahead 22 = .ok (.getfield 51, 3) := by decide +kernel
theorem dMo_ahead_25 : decode cMo_ahead 25 = .ok (.iload_n 2, 1) := by decide +kernel
theorem dMo_ahead_26 : decode cMo_ahead 26 = .ok (.iaload, 1) := by decide +kernel
theorem dMo_ahead_27 : decode cMo_ahead 27 = .ok (.if_icmp .ge 7, 3) := by decide +kernel
theorem dMo_ahead_30 : decode cMo_ahead 30 = .ok (.iconst 1, 1) := by decide +kernel
theorem dMo_ahead_31 : decode cMo_ahead 31 = .ok (.goto 4, 3) := by decide +kernel
theorem dMo_ahead_34 : decode cMo_ahead 34 = .ok (.iconst 0, 1) := by decide +kernel
theorem dMo_ahead_35 : decode cMo_ahead 35 = .ok (.ireturn, 1) := by decide +kernel
theorem dMo_ahead_36 : decode cMo_ahead 36 = .ok (.aload_n 0, 1) := by decide +kernel
theorem dMo_ahead_37 : decode cMo_ahead 37 = .ok (.getfield 45, 3) := by decide +kernel
theorem dMo_ahead_40 : decode cMo_ahead 40 = .ok (.iload_n 1, 1) := by decide +kernel
theorem dMo_ahead_41 : decode cMo_ahead 41 = .ok (.iaload, 1) := by decide +kernel
theorem dMo_ahead_42 : decode cMo_ahead 42 = .ok (.aload_n 0, 1) := by decide +kernel
theorem dMo_ahead_43 : decode cMo_ahead 43 = .ok (.getfield 45, 3) := by decide +kernel
theorem dMo_ahead_46 : decode cMo_ahead 46 = .ok (.iload_n 2, 1) := by decide +kernel
theorem dMo_ahead_47 : decode cMo_ahead 47 = .ok (.iaload, 1) := by decide +kernel
theorem dMo_ahead_48 : decode cMo_ahead 48 = .ok (.if_icmp .eq 26, 3) := by decide +kernel
theorem dMo_ahead_51 : decode cMo_ahead 51 = .ok (.aload_n 0, 1) := by decide +kernel
theorem dMo_ahead_52 : decode cMo_ahead 52 = .ok (.getfield 45, 3) := by decide +kernel
theorem dMo_ahead_55 : decode cMo_ahead 55 = .ok (.iload_n 1, 1) := by decide +kernel
theorem dMo_ahead_56 : decode cMo_ahead 56 = .ok (.iaload, 1) := by decide +kernel
theorem dMo_ahead_57 : decode cMo_ahead 57 = .ok (.aload_n 0, 1) := by decide +kernel
theorem dMo_ahead_58 : decode cMo_ahead 58 = .ok (.getfield 45, 3) := by decide +kernel
theorem dMo_ahead_61 : decode cMo_ahead 61 = .ok (.iload_n 2, 1) := by decide +kernel
theorem dMo_ahead_62 : decode cMo_ahead 62 = .ok (.iaload, 1) := by decide +kernel
theorem dMo_ahead_63 : decode cMo_ahead 63 = .ok (.if_icmp .ge 7, 3) := by decide +kernel
theorem dMo_ahead_66 : decode cMo_ahead 66 = .ok (.iconst 1, 1) := by decide +kernel
theorem dMo_ahead_67 : decode cMo_ahead 67 = .ok (.goto 17, 3) := by decide +kernel
theorem dMo_ahead_70 : decode cMo_ahead 70 = .ok (.iconst 0, 1) := by decide +kernel
theorem dMo_ahead_71 : decode cMo_ahead 71 = .ok (.goto 13, 3) := by decide +kernel
theorem dMo_ahead_74 : decode cMo_ahead 74 = .ok (.iload_n 1, 1) := by decide +kernel
theorem dMo_ahead_75 : decode cMo_ahead 75 = .ok (.iload_n 2, 1) := by decide +kernel
theorem dMo_ahead_76 : decode cMo_ahead 76 = .ok (.if_icmp .ge 7, 3) := by decide +kernel
theorem dMo_ahead_79 : decode cMo_ahead 79 = .ok (.iconst 1, 1) := by decide +kernel
theorem dMo_ahead_80 : decode cMo_ahead 80 = .ok (.goto 4, 3) := by decide +kernel
theorem dMo_ahead_83 : decode cMo_ahead 83 = .ok (.iconst 0, 1) := by decide +kernel
theorem dMo_ahead_84 : decode cMo_ahead 84 = .ok (.ireturn, 1) := by decide +kernel
abbrev cMo_byRule : ByteArray := prog_7_method_12_code
abbrev mMo_byRule : MD := (⟨"DockBookModel", "byRule", "()V"⟩, cMo_byRule, 7, none, [])
theorem dMo_byRule_0 : decode cMo_byRule 0 = .ok (.iconst 0, 1) := by decide +kernel
theorem dMo_byRule_1 : decode cMo_byRule 1 = .ok (.istore_n 1, 1) := by decide +kernel
theorem dMo_byRule_2 : decode cMo_byRule 2 = .ok (.iconst 0, 1) := by decide +kernel
theorem dMo_byRule_3 : decode cMo_byRule 3 = .ok (.istore_n 2, 1) := by decide +kernel
theorem dMo_byRule_4 : decode cMo_byRule 4 = .ok (.iload_n 2, 1) := by decide +kernel
theorem dMo_byRule_5 : decode cMo_byRule 5 = .ok (.aload_n 0, 1) := by decide +kernel
theorem dMo_byRule_6 : decode cMo_byRule 6 = .ok (.getfield 79, 3) := by decide +kernel
theorem dMo_byRule_9 : decode cMo_byRule 9 = .ok (.if_icmp .ge 16, 3) := by decide +kernel
theorem dMo_byRule_12 : decode cMo_byRule 12 = .ok (.aload_n 0, 1) := by decide +kernel
theorem dMo_byRule_13 : decode cMo_byRule 13 = .ok (.getfield 85, 3) := by decide +kernel
theorem dMo_byRule_16 : decode cMo_byRule 16 = .ok (.iload_n 2, 1) := by decide +kernel
theorem dMo_byRule_17 : decode cMo_byRule 17 = .ok (.iconst (-1), 1) := by decide +kernel
theorem dMo_byRule_18 : decode cMo_byRule 18 = .ok (.iastore, 1) := by decide +kernel
theorem dMo_byRule_19 : decode cMo_byRule 19 = .ok (.iinc 2 1, 3) := by decide +kernel
theorem dMo_byRule_22 : decode cMo_byRule 22 = .ok (.goto (-18), 3) := by decide +kernel
theorem dMo_byRule_25 : decode cMo_byRule 25 = .ok (.iconst 0, 1) := by decide +kernel
theorem dMo_byRule_26 : decode cMo_byRule 26 = .ok (.istore_n 2, 1) := by decide +kernel
theorem dMo_byRule_27 : decode cMo_byRule 27 = .ok (.iload_n 2, 1) := by decide +kernel
theorem dMo_byRule_28 : decode cMo_byRule 28 = .ok (.aload_n 0, 1) := by decide +kernel
theorem dMo_byRule_29 : decode cMo_byRule 29 = .ok (.getfield 79, 3) := by decide +kernel
theorem dMo_byRule_32 : decode cMo_byRule 32 = .ok (.if_icmp .ge 254, 3) := by decide +kernel
theorem dMo_byRule_35 : decode cMo_byRule 35 = .ok (.iconst (-1), 1) := by decide +kernel
theorem dMo_byRule_36 : decode cMo_byRule 36 = .ok (.istore_n 3, 1) := by decide +kernel
theorem dMo_byRule_37 : decode cMo_byRule 37 = .ok (.iconst 0, 1) := by decide +kernel
theorem dMo_byRule_38 : decode cMo_byRule 38 = .ok (.istore 4, 2) := by decide +kernel
theorem dMo_byRule_40 : decode cMo_byRule 40 = .ok (.iload 4, 2) := by decide +kernel
theorem dMo_byRule_42 : decode cMo_byRule 42 = .ok (.aload_n 0, 1) := by decide +kernel
theorem dMo_byRule_43 : decode cMo_byRule 43 = .ok (.getfield 79, 3) := by decide +kernel
theorem dMo_byRule_46 : decode cMo_byRule 46 = .ok (.if_icmp .ge 45, 3) := by decide +kernel
theorem dMo_byRule_49 : decode cMo_byRule 49 = .ok (.iload_n 1, 1) := by decide +kernel
theorem dMo_byRule_50 : decode cMo_byRule 50 = .ok (.iload 4, 2) := by decide +kernel
theorem dMo_byRule_52 : decode cMo_byRule 52 = .ok (.ishr, 1) := by decide +kernel
theorem dMo_byRule_53 : decode cMo_byRule 53 = .ok (.iconst 1, 1) := by decide +kernel
theorem dMo_byRule_54 : decode cMo_byRule 54 = .ok (.iand, 1) := by decide +kernel
theorem dMo_byRule_55 : decode cMo_byRule 55 = .ok (.ifCond .ne 30, 3) := by decide +kernel
theorem dMo_byRule_58 : decode cMo_byRule 58 = .ok (.iload_n 3, 1) := by decide +kernel
theorem dMo_byRule_59 : decode cMo_byRule 59 = .ok (.ifCond .lt 23, 3) := by decide +kernel
theorem dMo_byRule_62 : decode cMo_byRule 62 = .ok (.aload_n 0, 1) := by decide +kernel
theorem dMo_byRule_63 : decode cMo_byRule 63 = .ok (.aload_n 0, 1) := by decide +kernel
theorem dMo_byRule_64 : decode cMo_byRule 64 = .ok (.getfield 82, 3) := by decide +kernel
theorem dMo_byRule_67 : decode cMo_byRule 67 = .ok (.iload 4, 2) := by decide +kernel
theorem dMo_byRule_69 : decode cMo_byRule 69 = .ok (.iaload, 1) := by decide +kernel
theorem dMo_byRule_70 : decode cMo_byRule 70 = .ok (.aload_n 0, 1) := by decide +kernel
theorem dMo_byRule_71 : decode cMo_byRule 71 = .ok (.getfield 82, 3) := by decide +kernel
theorem dMo_byRule_74 : decode cMo_byRule 74 = .ok (.iload_n 3, 1) := by decide +kernel
theorem dMo_byRule_75 : decode cMo_byRule 75 = .ok (.iaload, 1) := by decide +kernel
theorem dMo_byRule_76 : decode cMo_byRule 76 = .ok (.invokevirtual 127, 3) := by decide +kernel
theorem dMo_byRule_79 : decode cMo_byRule 79 = .ok (.ifCond .eq 6, 3) := by decide +kernel
theorem dMo_byRule_82 : decode cMo_byRule 82 = .ok (.iload 4, 2) := by decide +kernel
theorem dMo_byRule_84 : decode cMo_byRule 84 = .ok (.istore_n 3, 1) := by decide +kernel
theorem dMo_byRule_85 : decode cMo_byRule 85 = .ok (.iinc 4 1, 3) := by decide +kernel
theorem dMo_byRule_88 : decode cMo_byRule 88 = .ok (.goto (-48), 3) := by decide +kernel
theorem dMo_byRule_91 : decode cMo_byRule 91 = .ok (.iload_n 1, 1) := by decide +kernel
theorem dMo_byRule_92 : decode cMo_byRule 92 = .ok (.iconst 1, 1) := by decide +kernel
theorem dMo_byRule_93 : decode cMo_byRule 93 = .ok (.iload_n 3, 1) := by decide +kernel
theorem dMo_byRule_94 : decode cMo_byRule 94 = .ok (.ishl, 1) := by decide +kernel
theorem dMo_byRule_95 : decode cMo_byRule 95 = .ok (.ior, 1) := by decide +kernel
theorem dMo_byRule_96 : decode cMo_byRule 96 = .ok (.istore_n 1, 1) := by decide +kernel
theorem dMo_byRule_97 : decode cMo_byRule 97 = .ok (.aload_n 0, 1) := by decide +kernel
theorem dMo_byRule_98 : decode cMo_byRule 98 = .ok (.getfield 88, 3) := by decide +kernel
theorem dMo_byRule_101 : decode cMo_byRule 101 = .ok (.iload_n 3, 1) := by decide +kernel
theorem dMo_byRule_102 : decode cMo_byRule 102 = .ok (.iconst (-1), 1) := by decide +kernel
theorem dMo_byRule_103 : decode cMo_byRule 103 = .ok (.iastore, 1) := by decide +kernel
theorem dMo_byRule_104 : decode cMo_byRule 104 = .ok (.iconst 0, 1) := by decide +kernel
theorem dMo_byRule_105 : decode cMo_byRule 105 = .ok (.istore 4, 2) := by decide +kernel
theorem dMo_byRule_107 : decode cMo_byRule 107 = .ok (.iload 4, 2) := by decide +kernel
theorem dMo_byRule_109 : decode cMo_byRule 109 = .ok (.aload_n 0, 1) := by decide +kernel
theorem dMo_byRule_110 : decode cMo_byRule 110 = .ok (.getfield 16, 3) := by decide +kernel
theorem dMo_byRule_113 : decode cMo_byRule 113 = .ok (.if_icmp .ge 167, 3) := by decide +kernel
theorem dMo_byRule_116 : decode cMo_byRule 116 = .ok (.aload_n 0, 1) := by decide +kernel
theorem dMo_byRule_117 : decode cMo_byRule 117 = .ok (.iload 4, 2) := by decide +kernel
theorem dMo_byRule_119 : decode cMo_byRule 119 = .ok (.invokevirtual 107, 3) := by decide +kernel
theorem dMo_byRule_122 : decode cMo_byRule 122 = .ok (.istore 5, 2) := by decide +kernel
theorem dMo_byRule_124 : decode cMo_byRule 124 = .ok (.iconst 0, 1) := by decide +kernel
theorem dMo_byRule_125 : decode cMo_byRule 125 = .ok (.istore 6, 2) := by decide +kernel
theorem dMo_byRule_127 : decode cMo_byRule 127 = .ok (.iload 6, 2) := by decide +kernel
theorem dMo_byRule_129 : decode cMo_byRule 129 = .ok (.aload_n 0, 1) := by decide +kernel
theorem dMo_byRule_130 : decode cMo_byRule 130 = .ok (.getfield 79, 3) := by decide +kernel
theorem dMo_byRule_133 : decode cMo_byRule 133 = .ok (.if_icmp .ge 84, 3) := by decide +kernel
theorem dMo_byRule_136 : decode cMo_byRule 136 = .ok (.iload_n 1, 1) := by decide +kernel
theorem dMo_byRule_137 : decode cMo_byRule 137 = .ok (.iload 6, 2) := by decide +kernel
theorem dMo_byRule_139 : decode cMo_byRule 139 = .ok (.ishr, 1) := by decide +kernel
theorem dMo_byRule_140 : decode cMo_byRule 140 = .ok (.iconst 1, 1) := by decide +kernel
theorem dMo_byRule_141 : decode cMo_byRule 141 = .ok (.iand, 1) := by decide +kernel
theorem dMo_byRule_142 : decode cMo_byRule 142 = .ok (.iconst 1, 1) := by decide +kernel
theorem dMo_byRule_143 : decode cMo_byRule 143 = .ok (.if_icmp .ne 68, 3) := by decide +kernel
theorem dMo_byRule_146 : decode cMo_byRule 146 = .ok (.iload 6, 2) := by decide +kernel
theorem dMo_byRule_148 : decode cMo_byRule 148 = .ok (.iload_n 3, 1) := by decide +kernel
theorem dMo_byRule_149 : decode cMo_byRule 149 = .ok (.if_icmp .eq 62, 3) := by decide +kernel
theorem dMo_byRule_152 : decode cMo_byRule 152 = .ok (.aload_n 0, 1) := by decide +kernel
theorem dMo_byRule_153 : decode cMo_byRule 153 = .ok (.getfield 85, 3) := by decide +kernel
theorem dMo_byRule_156 : decode cMo_byRule 156 = .ok (.iload 6, 2) := by decide +kernel
theorem dMo_byRule_158 : decode cMo_byRule 158 = .ok (.iaload, 1) := by decide +kernel
theorem dMo_byRule_159 : decode cMo_byRule 159 = .ok (.iload 4, 2) := by decide +kernel
theorem dMo_byRule_161 : decode cMo_byRule 161 = .ok (.if_icmp .ne 50, 3) := by decide +kernel
theorem dMo_byRule_164 : decode cMo_byRule 164 = .ok (.aload_n 0, 1) := by decide +kernel
theorem dMo_byRule_165 : decode cMo_byRule 165 = .ok (.getfield 88, 3) := by decide +kernel
theorem dMo_byRule_168 : decode cMo_byRule 168 = .ok (.iload 6, 2) := by decide +kernel
theorem dMo_byRule_170 : decode cMo_byRule 170 = .ok (.iaload, 1) := by decide +kernel
theorem dMo_byRule_171 : decode cMo_byRule 171 = .ok (.aload_n 0, 1) := by decide +kernel
theorem dMo_byRule_172 : decode cMo_byRule 172 = .ok (.getfield 48, 3) := by decide +kernel
theorem dMo_byRule_175 : decode cMo_byRule 175 = .ok (.aload_n 0, 1) := by decide +kernel
theorem dMo_byRule_176 : decode cMo_byRule 176 = .ok (.getfield 82, 3) := by decide +kernel
theorem dMo_byRule_179 : decode cMo_byRule 179 = .ok (.iload 6, 2) := by decide +kernel
theorem dMo_byRule_181 : decode cMo_byRule 181 = .ok (.iaload, 1) := by decide +kernel
theorem dMo_byRule_182 : decode cMo_byRule 182 = .ok (.iaload, 1) := by decide +kernel
theorem dMo_byRule_183 : decode cMo_byRule 183 = .ok (.iadd, 1) := by decide +kernel
theorem dMo_byRule_184 : decode cMo_byRule 184 = .ok (.iload 5, 2) := by decide +kernel
theorem dMo_byRule_186 : decode cMo_byRule 186 = .ok (.if_icmp .le 25, 3) := by decide +kernel
theorem dMo_byRule_189 : decode cMo_byRule 189 = .ok (.aload_n 0, 1) := by decide +kernel
theorem dMo_byRule_190 : decode cMo_byRule 190 = .ok (.getfield 88, 3) := by decide +kernel
theorem dMo_byRule_193 : decode cMo_byRule 193 = .ok (.iload 6, 2) := by decide +kernel
theorem dMo_byRule_195 : decode cMo_byRule 195 = .ok (.iaload, 1) := by decide +kernel
theorem dMo_byRule_196 : decode cMo_byRule 196 = .ok (.aload_n 0, 1) := by decide +kernel
theorem dMo_byRule_197 : decode cMo_byRule 197 = .ok (.getfield 48, 3) := by decide +kernel
theorem dMo_byRule_200 : decode cMo_byRule 200 = .ok (.aload_n 0, 1) := by decide +kernel
theorem dMo_byRule_201 : decode cMo_byRule 201 = .ok (.getfield 82, 3) := by decide +kernel
theorem dMo_byRule_204 : decode cMo_byRule 204 = .ok (.iload 6, 2) := by decide +kernel
theorem dMo_byRule_206 : decode cMo_byRule 206 = .ok (.iaload, 1) := by decide +kernel
theorem dMo_byRule_207 : decode cMo_byRule 207 = .ok (.iaload, 1) := by decide +kernel
theorem dMo_byRule_208 : decode cMo_byRule 208 = .ok (.iadd, 1) := by decide +kernel
theorem dMo_byRule_209 : decode cMo_byRule 209 = .ok (.istore 5, 2) := by decide +kernel
theorem dMo_byRule_211 : decode cMo_byRule 211 = .ok (.iinc 6 1, 3) := by decide +kernel
theorem dMo_byRule_214 : decode cMo_byRule 214 = .ok (.goto (-87), 3) := by decide +kernel
theorem dMo_byRule_217 : decode cMo_byRule 217 = .ok (.aload_n 0, 1) := by decide +kernel
theorem dMo_byRule_218 : decode cMo_byRule 218 = .ok (.aload_n 0, 1) := by decide +kernel
theorem dMo_byRule_219 : decode cMo_byRule 219 = .ok (.getfield 82, 3) := by decide +kernel
theorem dMo_byRule_222 : decode cMo_byRule 222 = .ok (.iload_n 3, 1) := by decide +kernel
theorem dMo_byRule_223 : decode cMo_byRule 223 = .ok (.iaload, 1) := by decide +kernel
theorem dMo_byRule_224 : decode cMo_byRule 224 = .ok (.iload 4, 2) := by decide +kernel
theorem dMo_byRule_226 : decode cMo_byRule 226 = .ok (.iload 5, 2) := by decide +kernel
theorem dMo_byRule_228 : decode cMo_byRule 228 = .ok (.invokevirtual 110, 3) := by decide +kernel
theorem dMo_byRule_231 : decode cMo_byRule 231 = .ok (.istore 6, 2) := by decide +kernel
theorem dMo_byRule_233 : decode cMo_byRule 233 = .ok (.iload 6, 2) := by decide +kernel
theorem dMo_byRule_235 : decode cMo_byRule 235 = .ok (.ifCond .lt 39, 3) := by decide +kernel
theorem dMo_byRule_238 : decode cMo_byRule 238 = .ok (.aload_n 0, 1) := by decide +kernel
theorem dMo_byRule_239 : decode cMo_byRule 239 = .ok (.getfield 85, 3) := by decide +kernel
theorem dMo_byRule_242 : decode cMo_byRule 242 = .ok (.iload_n 3, 1) := by decide +kernel
theorem dMo_byRule_243 : decode cMo_byRule 243 = .ok (.iaload, 1) := by decide +kernel
theorem dMo_byRule_244 : decode cMo_byRule 244 = .ok (.ifCond .lt 14, 3) := by decide +kernel
theorem dMo_byRule_247 : decode cMo_byRule 247 = .ok (.iload 6, 2) := by decide +kernel
theorem dMo_byRule_249 : decode cMo_byRule 249 = .ok (.aload_n 0, 1) := by decide +kernel
theorem dMo_byRule_250 : decode cMo_byRule 250 = .ok (.getfield 88, 3) := by decide +kernel
theorem dMo_byRule_253 : decode cMo_byRule 253 = .ok (.iload_n 3, 1) := by decide +kernel
theorem dMo_byRule_254 : decode cMo_byRule 254 = .ok (.iaload, 1) := by decide +kernel
theorem dMo_byRule_255 : decode cMo_byRule 255 = .ok (.if_icmp .ge 19, 3) := by decide +kernel
theorem dMo_byRule_258 : decode cMo_byRule 258 = .ok (.aload_n 0, 1) := by decide +kernel
theorem dMo_byRule_259 : decode cMo_byRule 259 = .ok (.getfield 85, 3) := by decide +kernel
theorem dMo_byRule_262 : decode cMo_byRule 262 = .ok (.iload_n 3, 1) := by decide +kernel
theorem dMo_byRule_263 : decode cMo_byRule 263 = .ok (.iload 4, 2) := by decide +kernel
theorem dMo_byRule_265 : decode cMo_byRule 265 = .ok (.iastore, 1) := by decide +kernel
theorem dMo_byRule_266 : decode cMo_byRule 266 = .ok (.aload_n 0, 1) := by decide +kernel
theorem dMo_byRule_267 : decode cMo_byRule 267 = .ok (.getfield 88, 3) := by decide +kernel
theorem dMo_byRule_270 : decode cMo_byRule 270 = .ok (.iload_n 3, 1) := by decide +kernel
theorem dMo_byRule_271 : decode cMo_byRule 271 = .ok (.iload 6, 2) := by decide +kernel
theorem dMo_byRule_273 : decode cMo_byRule 273 = .ok (.iastore, 1) := by decide +kernel
theorem dMo_byRule_274 : decode cMo_byRule 274 = .ok (.iinc 4 1, 3) := by decide +kernel
theorem dMo_byRule_277 : decode cMo_byRule 277 = .ok (.goto (-170), 3) := by decide +kernel
theorem dMo_byRule_280 : decode cMo_byRule 280 = .ok (.iinc 2 1, 3) := by decide +kernel
theorem dMo_byRule_283 : decode cMo_byRule 283 = .ok (.goto (-256), 3) := by decide +kernel
theorem dMo_byRule_286 : decode cMo_byRule 286 = .ok (.return_, 1) := by decide +kernel
abbrev cMo_costNow : ByteArray := prog_7_method_13_code
abbrev mMo_costNow : MD := (⟨"DockBookModel", "costNow", "()I"⟩, cMo_costNow, 3, some (.int), [])
theorem dMo_costNow_0 : decode cMo_costNow 0 = .ok (.iconst 0, 1) := by decide +kernel
theorem dMo_costNow_1 : decode cMo_costNow 1 = .ok (.istore_n 1, 1) := by decide +kernel
theorem dMo_costNow_2 : decode cMo_costNow 2 = .ok (.iconst 0, 1) := by decide +kernel
theorem dMo_costNow_3 : decode cMo_costNow 3 = .ok (.istore_n 2, 1) := by decide +kernel
theorem dMo_costNow_4 : decode cMo_costNow 4 = .ok (.iload_n 2, 1) := by decide +kernel
theorem dMo_costNow_5 : decode cMo_costNow 5 = .ok (.aload_n 0, 1) := by decide +kernel
theorem dMo_costNow_6 : decode cMo_costNow 6 = .ok (.getfield 36, 3) := by decide +kernel
theorem dMo_costNow_9 : decode cMo_costNow 9 = .ok (.if_icmp .ge 49, 3) := by decide +kernel
theorem dMo_costNow_12 : decode cMo_costNow 12 = .ok (.aload_n 0, 1) := by decide +kernel
theorem dMo_costNow_13 : decode cMo_costNow 13 = .ok (.getfield 39, 3) := by decide +kernel
theorem dMo_costNow_16 : decode cMo_costNow 16 = .ok (.iload_n 2, 1) := by decide +kernel
theorem dMo_costNow_17 : decode cMo_costNow 17 = .ok (.iaload, 1) := by decide +kernel
theorem dMo_costNow_18 : decode cMo_costNow 18 = .ok (.ifCond .ne 34, 3) := by decide +kernel
theorem dMo_costNow_21 : decode cMo_costNow 21 = .ok (.iload_n 1, 1) := by decide +kernel
theorem dMo_costNow_22 : decode cMo_costNow 22 = .ok (.aload_n 0, 1) := by decide +kernel
theorem dMo_costNow_23 : decode cMo_costNow 23 = .ok (.getfield 54, 3) := by decide +kernel
theorem dMo_costNow_26 : decode cMo_costNow 26 = .ok (.iload_n 2, 1) := by decide +kernel
theorem dMo_costNow_27 : decode cMo_costNow 27 = .ok (.iaload, 1) := by decide +kernel
theorem dMo_costNow_28 : decode cMo_costNow 28 = .ok (.ifCond .ge 9, 3) := by decide +kernel
theorem dMo_costNow_31 : decode cMo_costNow 31 = .ok (.sipush 5000, 3) := by decide +kernel
theorem dMo_costNow_34 : decode cMo_costNow 34 = .ok (.goto 16, 3) := by decide +kernel
theorem dMo_costNow_37 : decode cMo_costNow 37 = .ok (.aload_n 0, 1) := by decide +kernel
theorem dMo_costNow_38 : decode cMo_costNow 38 = .ok (.getfield 57, 3) := by decide +kernel
theorem dMo_costNow_41 : decode cMo_costNow 41 = .ok (.iload_n 2, 1) := by decide +kernel
theorem dMo_costNow_42 : decode cMo_costNow 42 = .ok (.iaload, 1) := by decide +kernel
theorem dMo_costNow_43 : decode cMo_costNow 43 = .ok (.aload_n 0, 1) := by decide +kernel
theorem dMo_costNow_44 : decode cMo_costNow 44 = .ok (.getfield 45, 3) := by decide +kernel
theorem dMo_costNow_47 : decode cMo_costNow 47 = .ok (.iload_n 2, 1) := by decide +kernel
theorem dMo_costNow_48 : decode cMo_costNow 48 = .ok (.iaload, 1) := by decide +kernel
theorem dMo_costNow_49 : decode cMo_costNow 49 = .ok (.isub, 1) := by decide +kernel
theorem dMo_costNow_50 : decode cMo_costNow 50 = .ok (.iadd, 1) := by decide +kernel
theorem dMo_costNow_51 : decode cMo_costNow 51 = .ok (.istore_n 1, 1) := by decide +kernel
theorem dMo_costNow_52 : decode cMo_costNow 52 = .ok (.iinc 2 1, 3) := by decide +kernel
theorem dMo_costNow_55 : decode cMo_costNow 55 = .ok (.goto (-51), 3) := by decide +kernel
theorem dMo_costNow_58 : decode cMo_costNow 58 = .ok (.iload_n 1, 1) := by decide +kernel
theorem dMo_costNow_59 : decode cMo_costNow 59 = .ok (.ireturn, 1) := by decide +kernel
abbrev cMo_nothing : ByteArray := prog_7_method_14_code
abbrev mMo_nothing : MD := (⟨"DockBookModel", "nothing", "(I)V"⟩, cMo_nothing, 2, none, [])
theorem dMo_nothing_0 : decode cMo_nothing 0 = .ok (.aload_n 0, 1) := by decide +kernel
theorem dMo_nothing_1 : decode cMo_nothing 1 = .ok (.getfield 54, 3) := by decide +kernel
theorem dMo_nothing_4 : decode cMo_nothing 4 = .ok (.iload_n 1, 1) := by decide +kernel
theorem dMo_nothing_5 : decode cMo_nothing 5 = .ok (.iconst (-1), 1) := by decide +kernel
theorem dMo_nothing_6 : decode cMo_nothing 6 = .ok (.iastore, 1) := by decide +kernel
theorem dMo_nothing_7 : decode cMo_nothing 7 = .ok (.aload_n 0, 1) := by decide +kernel
theorem dMo_nothing_8 : decode cMo_nothing 8 = .ok (.getfield 57, 3) := by decide +kernel
theorem dMo_nothing_11 : decode cMo_nothing 11 = .ok (.iload_n 1, 1) := by decide +kernel
theorem dMo_nothing_12 : decode cMo_nothing 12 = .ok (.iconst (-1), 1) := by decide +kernel
theorem dMo_nothing_13 : decode cMo_nothing 13 = .ok (.iastore, 1) := by decide +kernel
theorem dMo_nothing_14 : decode cMo_nothing 14 = .ok (.return_, 1) := by decide +kernel
abbrev cMo_thrown : ByteArray := prog_7_method_15_code
abbrev mMo_thrown : MD := (⟨"DockBookModel", "thrown", "()I"⟩, cMo_thrown, 1, some (.int), [])
theorem dMo_thrown_0 : decode cMo_thrown 0 = .ok (.aload_n 0, 1) := by decide +kernel
theorem dMo_thrown_1 : decode cMo_thrown 1 = .ok (.getfield 7, 3) := by decide +kernel
theorem dMo_thrown_4 : decode cMo_thrown 4 = .ok (.ireturn, 1) := by decide +kernel
abbrev cMo_not : ByteArray := prog_7_method_16_code
abbrev mMo_not : MD := (⟨"DockBookModel", "not", "(III)Z"⟩, cMo_not, 3, some (.boolean), [])
theorem dMo_not_0 : decode cMo_not 0 = .ok (.iload_n 0, 1) := by decide +kernel
theorem dMo_not_1 : decode cMo_not 1 = .ok (.iload_n 1, 1) := by decide +kernel
theorem dMo_not_2 : decode cMo_not 2 = .ok (.if_icmp .lt 8, 3) := by decide +kernel
theorem dMo_not_5 : decode cMo_not 5 = .ok (.iload_n 0, 1) := by decide +kernel
theorem dMo_not_6 : decode cMo_not 6 = .ok (.iload_n 2, 1) := by decide +kernel
theorem dMo_not_7 : decode cMo_not 7 = .ok (.if_icmp .le 7, 3) := by decide +kernel
theorem dMo_not_10 : decode cMo_not 10 = .ok (.iconst 1, 1) := by decide +kernel
theorem dMo_not_11 : decode cMo_not 11 = .ok (.goto 4, 3) := by decide +kernel
theorem dMo_not_14 : decode cMo_not 14 = .ok (.iconst 0, 1) := by decide +kernel
theorem dMo_not_15 : decode cMo_not 15 = .ok (.ireturn, 1) := by decide +kernel
abbrev cMo_noTruck : ByteArray := prog_7_method_17_code
abbrev mMo_noTruck : MD := (⟨"DockBookModel", "noTruck", "(I)Z"⟩, cMo_noTruck, 2, some (.boolean), [])
theorem dMo_noTruck_0 : decode cMo_noTruck 0 = .ok (.iload_n 1, 1) := by decide +kernel
theorem dMo_noTruck_1 : decode cMo_noTruck 1 = .ok (.ifCond .lt 11, 3) := by decide +kernel
theorem dMo_noTruck_4 : decode cMo_noTruck 4 = .ok (.iload_n 1, 1) := by decide +kernel
theorem dMo_noTruck_5 : decode cMo_noTruck 5 = .ok (.aload_n 0, 1) := by decide +kernel
theorem dMo_noTruck_6 : decode cMo_noTruck 6 = .ok (.getfield 36, 3) := by decide +kernel
theorem dMo_noTruck_9 : decode cMo_noTruck 9 = .ok (.if_icmp .lt 7, 3) := by decide +kernel
theorem dMo_noTruck_12 : decode cMo_noTruck 12 = .ok (.iconst 1, 1) := by decide +kernel
theorem dMo_noTruck_13 : decode cMo_noTruck 13 = .ok (.goto 4, 3) := by decide +kernel
theorem dMo_noTruck_16 : decode cMo_noTruck 16 = .ok (.iconst 0, 1) := by decide +kernel
theorem dMo_noTruck_17 : decode cMo_noTruck 17 = .ok (.ireturn, 1) := by decide +kernel
abbrev cMo_noDoor : ByteArray := prog_7_method_18_code
abbrev mMo_noDoor : MD := (⟨"DockBookModel", "noDoor", "(I)Z"⟩, cMo_noDoor, 2, some (.boolean), [])
theorem dMo_noDoor_0 : decode cMo_noDoor 0 = .ok (.iload_n 1, 1) := by decide +kernel
theorem dMo_noDoor_1 : decode cMo_noDoor 1 = .ok (.ifCond .lt 11, 3) := by decide +kernel
theorem dMo_noDoor_4 : decode cMo_noDoor 4 = .ok (.iload_n 1, 1) := by decide +kernel
theorem dMo_noDoor_5 : decode cMo_noDoor 5 = .ok (.aload_n 0, 1) := by decide +kernel
theorem dMo_noDoor_6 : decode cMo_noDoor 6 = .ok (.getfield 16, 3) := by decide +kernel
theorem dMo_noDoor_9 : decode cMo_noDoor 9 = .ok (.if_icmp .lt 7, 3) := by decide +kernel
theorem dMo_noDoor_12 : decode cMo_noDoor 12 = .ok (.iconst 1, 1) := by decide +kernel
theorem dMo_noDoor_13 : decode cMo_noDoor 13 = .ok (.goto 4, 3) := by decide +kernel
theorem dMo_noDoor_16 : decode cMo_noDoor 16 = .ok (.iconst 0, 1) := by decide +kernel
theorem dMo_noDoor_17 : decode cMo_noDoor 17 = .ok (.ireturn, 1) := by decide +kernel
abbrev cMo_door : ByteArray := prog_7_method_19_code
abbrev mMo_door : MD := (⟨"DockBookModel", "door", "(III)I"⟩, cMo_door, 4, some (.int), [])
theorem dMo_door_0 : decode cMo_door 0 = .ok (.aload_n 0, 1) := by decide +kernel
theorem dMo_door_1 : decode cMo_door 1 = .ok (.iload_n 1, 1) := by decide +kernel
theorem dMo_door_2 : decode cMo_door 2 = .ok (.iconst 0, 1) := by decide +kernel
theorem dMo_door_3 : decode cMo_door 3 = .ok (.sipush 255, 3) := by decide +kernel
theorem dMo_door_6 : decode cMo_door 6 = .ok (.invokestatic 131, 3) := by decide +kernel
theorem dMo_door_9 : decode cMo_door 9 = .ok (.ifCond .ne 30, 3) := by decide +kernel
theorem dMo_door_12 : decode cMo_door 12 = .ok (.iload_n 2, 1) := by decide +kernel
theorem dMo_door_13 : decode cMo_door 13 = .ok (.iconst 0, 1) := by decide +kernel
theorem dMo_door_14 : decode cMo_door 14 = .ok (.sipush 2000, 3) := by decide +kernel
theorem dMo_door_17 : decode cMo_door 17 = .ok (.invokestatic 131, 3) := by decide +kernel
theorem dMo_door_20 : decode cMo_door 20 = .ok (.ifCond .ne 19, 3) := by decide +kernel
theorem dMo_door_23 : decode cMo_door 23 = .ok (.iload_n 3, 1) := by decide +kernel
theorem dMo_door_24 : decode cMo_door 24 = .ok (.iconst 0, 1) := by decide +kernel
theorem dMo_door_25 : decode cMo_door 25 = .ok (.sipush 2000, 3) := by decide +kernel
theorem dMo_door_28 : decode cMo_door 28 = .ok (.invokestatic 131, 3) := by decide +kernel
theorem dMo_door_31 : decode cMo_door 31 = .ok (.ifCond .ne 8, 3) := by decide +kernel
theorem dMo_door_34 : decode cMo_door 34 = .ok (.iload_n 2, 1) := by decide +kernel
theorem dMo_door_35 : decode cMo_door 35 = .ok (.iload_n 3, 1) := by decide +kernel
theorem dMo_door_36 : decode cMo_door 36 = .ok (.if_icmp .lt 7, 3) := by decide +kernel
theorem dMo_door_39 : decode cMo_door 39 = .ok (.iconst 1, 1) := by decide +kernel
theorem dMo_door_40 : decode cMo_door 40 = .ok (.goto 16, 3) := by decide +kernel
theorem dMo_door_43 : decode cMo_door 43 = .ok (.aload_n 0, 1) := by decide +kernel
theorem dMo_door_44 : decode cMo_door 44 = .ok (.getfield 16, 3) := by decide +kernel
theorem dMo_door_47 : decode cMo_door 47 = .ok (.iconst 4, 1) := by decide +kernel
theorem dMo_door_48 : decode cMo_door 48 = .ok (.if_icmp .ne 7, 3) := by decide +kernel
theorem dMo_door_51 : decode cMo_door 51 = .ok (.iconst 2, 1) := by decide +kernel
theorem dMo_door_52 : decode cMo_door 52 = .ok (.goto 4, 3) := by decide +kernel
theorem dMo_door_55 : decode cMo_door 55 = .ok (.iconst 0, 1) := by decide +kernel
theorem dMo_door_56 : decode cMo_door 56 = .ok (.putfield 7, 3) := by decide +kernel
theorem dMo_door_59 : decode cMo_door 59 = .ok (.aload_n 0, 1) := by decide +kernel
theorem dMo_door_60 : decode cMo_door 60 = .ok (.getfield 7, 3) := by decide +kernel
theorem dMo_door_63 : decode cMo_door 63 = .ok (.ifCond .eq 5, 3) := by decide +kernel
theorem dMo_door_66 : decode cMo_door 66 = .ok (.iconst 0, 1) := by decide +kernel
theorem dMo_door_67 : decode cMo_door 67 = .ok (.ireturn, 1) := by decide +kernel
theorem dMo_door_68 : decode cMo_door 68 = .ok (.aload_n 0, 1) := by decide +kernel
theorem dMo_door_69 : decode cMo_door 69 = .ok (.getfield 19, 3) := by decide +kernel
theorem dMo_door_72 : decode cMo_door 72 = .ok (.aload_n 0, 1) := by decide +kernel
theorem dMo_door_73 : decode cMo_door 73 = .ok (.getfield 16, 3) := by decide +kernel
theorem dMo_door_76 : decode cMo_door 76 = .ok (.iload_n 1, 1) := by decide +kernel
theorem dMo_door_77 : decode cMo_door 77 = .ok (.iastore, 1) := by decide +kernel
theorem dMo_door_78 : decode cMo_door 78 = .ok (.aload_n 0, 1) := by decide +kernel
theorem dMo_door_79 : decode cMo_door 79 = .ok (.getfield 23, 3) := by decide +kernel
theorem dMo_door_82 : decode cMo_door 82 = .ok (.aload_n 0, 1) := by decide +kernel
theorem dMo_door_83 : decode cMo_door 83 = .ok (.getfield 16, 3) := by decide +kernel
theorem dMo_door_86 : decode cMo_door 86 = .ok (.iload_n 2, 1) := by decide +kernel
theorem dMo_door_87 : decode cMo_door 87 = .ok (.iastore, 1) := by decide +kernel
theorem dMo_door_88 : decode cMo_door 88 = .ok (.aload_n 0, 1) := by decide +kernel
theorem dMo_door_89 : decode cMo_door 89 = .ok (.getfield 26, 3) := by decide +kernel
theorem dMo_door_92 : decode cMo_door 92 = .ok (.aload_n 0, 1) := by decide +kernel
theorem dMo_door_93 : decode cMo_door 93 = .ok (.getfield 16, 3) := by decide +kernel
theorem dMo_door_96 : decode cMo_door 96 = .ok (.iload_n 3, 1) := by decide +kernel
theorem dMo_door_97 : decode cMo_door 97 = .ok (.iastore, 1) := by decide +kernel
theorem dMo_door_98 : decode cMo_door 98 = .ok (.aload_n 0, 1) := by decide +kernel
theorem dMo_door_99 : decode cMo_door 99 = .ok (.dup, 1) := by decide +kernel
theorem dMo_door_100 : decode cMo_door 100 = .ok (.getfield 16, 3) := by decide +kernel
theorem dMo_door_103 : decode cMo_door 103 = .ok (.iconst 1, 1) := by decide +kernel
theorem dMo_door_104 : decode cMo_door 104 = .ok (.iadd, 1) := by decide +kernel
theorem dMo_door_105 : decode cMo_door 105 = .ok (.putfield 16, 3) := by decide +kernel
theorem dMo_door_108 : decode cMo_door 108 = .ok (.aload_n 0, 1) := by decide +kernel
theorem dMo_door_109 : decode cMo_door 109 = .ok (.getfield 16, 3) := by decide +kernel
theorem dMo_door_112 : decode cMo_door 112 = .ok (.iconst 1, 1) := by decide +kernel
theorem dMo_door_113 : decode cMo_door 113 = .ok (.isub, 1) := by decide +kernel
theorem dMo_door_114 : decode cMo_door 114 = .ok (.ireturn, 1) := by decide +kernel
abbrev cMo_truck : ByteArray := prog_7_method_20_code
abbrev mMo_truck : MD := (⟨"DockBookModel", "truck", "(IIII)I"⟩, cMo_truck, 5, some (.int), [])
theorem dMo_truck_0 : decode cMo_truck 0 = .ok (.aload_n 0, 1) := by decide +kernel
theorem dMo_truck_1 : decode cMo_truck 1 = .ok (.iload_n 1, 1) := by decide +kernel
theorem dMo_truck_2 : decode cMo_truck 2 = .ok (.iconst 0, 1) := by decide +kernel
theorem dMo_truck_3 : decode cMo_truck 3 = .ok (.bipush 7, 2) := by decide +kernel
theorem dMo_truck_5 : decode cMo_truck 5 = .ok (.invokestatic 131, 3) := by decide +kernel
theorem dMo_truck_8 : decode cMo_truck 8 = .ok (.ifCond .ne 36, 3) := by decide +kernel
theorem dMo_truck_11 : decode cMo_truck 11 = .ok (.iload_n 2, 1) := by decide +kernel
theorem dMo_truck_12 : decode cMo_truck 12 = .ok (.iconst 0, 1) := by decide +kernel
theorem dMo_truck_13 : decode cMo_truck 13 = .ok (.sipush 2000, 3) := by decide +kernel
theorem dMo_truck_16 : decode cMo_truck 16 = .ok (.invokestatic 131, 3) := by decide +kernel
theorem dMo_truck_19 : decode cMo_truck 19 = .ok (.ifCond .ne 25, 3) := by decide +kernel
theorem dMo_truck_22 : decode cMo_truck 22 = .ok (.iload_n 3, 1) := by decide +kernel
theorem dMo_truck_23 : decode cMo_truck 23 = .ok (.iconst 1, 1) := by decide +kernel
theorem dMo_truck_24 : decode cMo_truck 24 = .ok (.sipush 300, 3) := by decide +kernel
theorem dMo_truck_27 : decode cMo_truck 27 = .ok (.invokestatic 131, 3) := by decide +kernel
theorem dMo_truck_30 : decode cMo_truck 30 = .ok (.ifCond .ne 14, 3) := by decide +kernel
theorem dMo_truck_33 : decode cMo_truck 33 = .ok (.iload 4, 2) := by decide +kernel
theorem dMo_truck_35 : decode cMo_truck 35 = .ok (.iconst 1, 1) := by decide +kernel
theorem dMo_truck_36 : decode cMo_truck 36 = .ok (.bipush 9, 2) := by decide +kernel
theorem dMo_truck_38 : decode cMo_truck 38 = .ok (.invokestatic 131, 3) := by decide +kernel
theorem dMo_truck_41 : decode cMo_truck 41 = .ok (.ifCond .eq 7, 3) := by decide +kernel
theorem dMo_truck_44 : decode cMo_truck 44 = .ok (.iconst 1, 1) := by decide +kernel
theorem dMo_truck_45 : decode cMo_truck 45 = .ok (.goto 17, 3) := by decide +kernel
theorem dMo_truck_48 : decode cMo_truck 48 = .ok (.aload_n 0, 1) := by decide +kernel
theorem dMo_truck_49 : decode cMo_truck 49 = .ok (.getfield 36, 3) := by decide +kernel
theorem dMo_truck_52 : decode cMo_truck 52 = .ok (.bipush 12, 2) := by decide +kernel
theorem dMo_truck_54 : decode cMo_truck 54 = .ok (.if_icmp .ne 7, 3) := by decide +kernel
theorem dMo_truck_57 : decode cMo_truck 57 = .ok (.iconst 2, 1) := by decide +kernel
theorem dMo_truck_58 : decode cMo_truck 58 = .ok (.goto 4, 3) := by decide +kernel
theorem dMo_truck_61 : decode cMo_truck 61 = .ok (.iconst 0, 1) := by decide +kernel
theorem dMo_truck_62 : decode cMo_truck 62 = .ok (.putfield 7, 3) := by decide +kernel
theorem dMo_truck_65 : decode cMo_truck 65 = .ok (.aload_n 0, 1) := by decide +kernel
theorem dMo_truck_66 : decode cMo_truck 66 = .ok (.getfield 7, 3) := by decide +kernel
theorem dMo_truck_69 : decode cMo_truck 69 = .ok (.ifCond .eq 5, 3) := by decide +kernel
theorem dMo_truck_72 : decode cMo_truck 72 = .ok (.iconst 0, 1) := by decide +kernel
theorem dMo_truck_73 : decode cMo_truck 73 = .ok (.ireturn, 1) := by decide +kernel
theorem dMo_truck_74 : decode cMo_truck 74 = .ok (.aload_n 0, 1) := by decide +kernel
theorem dMo_truck_75 : decode cMo_truck 75 = .ok (.getfield 42, 3) := by decide +kernel
theorem dMo_truck_78 : decode cMo_truck 78 = .ok (.aload_n 0, 1) := by decide +kernel
theorem dMo_truck_79 : decode cMo_truck 79 = .ok (.getfield 36, 3) := by decide +kernel
theorem dMo_truck_82 : decode cMo_truck 82 = .ok (.iload_n 1, 1) := by decide +kernel
theorem dMo_truck_83 : decode cMo_truck 83 = .ok (.iastore, 1) := by decide +kernel
theorem dMo_truck_84 : decode cMo_truck 84 = .ok (.aload_n 0, 1) := by decide +kernel
theorem dMo_truck_85 : decode cMo_truck 85 = .ok (.getfield 45, 3) := by decide +kernel
theorem dMo_truck_88 : decode cMo_truck 88 = .ok (.aload_n 0, 1) := by decide +kernel
theorem dMo_truck_89 : decode cMo_truck 89 = .ok (.getfield 36, 3) := by decide +kernel
theorem dMo_truck_92 : decode cMo_truck 92 = .ok (.iload_n 2, 1) := by decide +kernel
theorem dMo_truck_93 : decode cMo_truck 93 = .ok (.iastore, 1) := by decide +kernel
theorem dMo_truck_94 : decode cMo_truck 94 = .ok (.aload_n 0, 1) := by decide +kernel
theorem dMo_truck_95 : decode cMo_truck 95 = .ok (.getfield 48, 3) := by decide +kernel
theorem dMo_truck_98 : decode cMo_truck 98 = .ok (.aload_n 0, 1) := by decide +kernel
theorem dMo_truck_99 : decode cMo_truck 99 = .ok (.getfield 36, 3) := by decide +kernel
theorem dMo_truck_102 : decode cMo_truck 102 = .ok (.iload_n 3, 1) := by decide +kernel
theorem dMo_truck_103 : decode cMo_truck 103 = .ok (.iastore, 1) := by decide +kernel
theorem dMo_truck_104 : decode cMo_truck 104 = .ok (.aload_n 0, 1) := by decide +kernel
theorem dMo_truck_105 : decode cMo_truck 105 = .ok (.getfield 51, 3) := by decide +kernel
theorem dMo_truck_108 : decode cMo_truck 108 = .ok (.aload_n 0, 1) := by decide +kernel
theorem dMo_truck_109 : decode cMo_truck 109 = .ok (.getfield 36, 3) := by decide +kernel
theorem dMo_truck_112 : decode cMo_truck 112 = .ok (.iload 4, 2) := by decide +kernel
theorem dMo_truck_114 : decode cMo_truck 114 = .ok (.iastore, 1) := by decide +kernel
theorem dMo_truck_115 : decode cMo_truck 115 = .ok (.aload_n 0, 1) := by decide +kernel
theorem dMo_truck_116 : decode cMo_truck 116 = .ok (.getfield 63, 3) := by decide +kernel
theorem dMo_truck_119 : decode cMo_truck 119 = .ok (.aload_n 0, 1) := by decide +kernel
theorem dMo_truck_120 : decode cMo_truck 120 = .ok (.getfield 36, 3) := by decide +kernel
theorem dMo_truck_123 : decode cMo_truck 123 = .ok (.iconst (-1), 1) := by decide +kernel
theorem dMo_truck_124 : decode cMo_truck 124 = .ok (.iastore, 1) := by decide +kernel
theorem dMo_truck_125 : decode cMo_truck 125 = .ok (.aload_n 0, 1) := by decide +kernel
theorem dMo_truck_126 : decode cMo_truck 126 = .ok (.getfield 60, 3) := by decide +kernel
theorem dMo_truck_129 : decode cMo_truck 129 = .ok (.aload_n 0, 1) := by decide +kernel
theorem dMo_truck_130 : decode cMo_truck 130 = .ok (.getfield 36, 3) := by decide +kernel
theorem dMo_truck_133 : decode cMo_truck 133 = .ok (.iconst (-1), 1) := by decide +kernel
theorem dMo_truck_134 : decode cMo_truck 134 = .ok (.iastore, 1) := by decide +kernel
theorem dMo_truck_135 : decode cMo_truck 135 = .ok (.aload_n 0, 1) := by decide +kernel
theorem dMo_truck_136 : decode cMo_truck 136 = .ok (.aload_n 0, 1) := by decide +kernel
theorem dMo_truck_137 : decode cMo_truck 137 = .ok (.getfield 36, 3) := by decide +kernel
theorem dMo_truck_140 : decode cMo_truck 140 = .ok (.invokevirtual 135, 3) := by decide +kernel
theorem dMo_truck_143 : decode cMo_truck 143 = .ok (.aload_n 0, 1) := by decide +kernel
theorem dMo_truck_144 : decode cMo_truck 144 = .ok (.dup, 1) := by decide +kernel
theorem dMo_truck_145 : decode cMo_truck 145 = .ok (.getfield 36, 3) := by decide +kernel
theorem dMo_truck_148 : decode cMo_truck 148 = .ok (.iconst 1, 1) := by decide +kernel
theorem dMo_truck_149 : decode cMo_truck 149 = .ok (.iadd, 1) := by decide +kernel
theorem dMo_truck_150 : decode cMo_truck 150 = .ok (.putfield 36, 3) := by decide +kernel
theorem dMo_truck_153 : decode cMo_truck 153 = .ok (.aload_n 0, 1) := by decide +kernel
theorem dMo_truck_154 : decode cMo_truck 154 = .ok (.getfield 36, 3) := by decide +kernel
theorem dMo_truck_157 : decode cMo_truck 157 = .ok (.iconst 1, 1) := by decide +kernel
theorem dMo_truck_158 : decode cMo_truck 158 = .ok (.isub, 1) := by decide +kernel
theorem dMo_truck_159 : decode cMo_truck 159 = .ok (.ireturn, 1) := by decide +kernel
abbrev cMo_assign : ByteArray := prog_7_method_21_code
abbrev mMo_assign : MD := (⟨"DockBookModel", "assign", "(I)I"⟩, cMo_assign, 4, some (.int), [])
theorem dMo_assign_0 : decode cMo_assign 0 = .ok (.aload_n 0, 1) := by decide +kernel
theorem dMo_assign_1 : decode cMo_assign 1 = .ok (.iload_n 1, 1) := by decide +kernel
theorem dMo_assign_2 : decode cMo_assign 2 = .ok (.iconst 0, 1) := by decide +kernel
theorem dMo_assign_3 : decode cMo_assign 3 = .ok (.iconst 5, 1) := by decide +kernel
theorem dMo_assign_4 : decode cMo_assign 4 = .ok (.invokestatic 131, 3) := by decide +kernel
theorem dMo_assign_7 : decode cMo_assign 7 = .ok (.ifCond .eq 7, 3) := by decide +kernel
theorem dMo_assign_10 : decode cMo_assign 10 = .ok (.iconst 1, 1) := by decide +kernel
theorem dMo_assign_11 : decode cMo_assign 11 = .ok (.goto 4, 3) := by decide +kernel
theorem dMo_assign_14 : decode cMo_assign 14 = .ok (.iconst 0, 1) := by decide +kernel
theorem dMo_assign_15 : decode cMo_assign 15 = .ok (.putfield 7, 3) := by decide +kernel
theorem dMo_assign_18 : decode cMo_assign 18 = .ok (.aload_n 0, 1) := by decide +kernel
theorem dMo_assign_19 : decode cMo_assign 19 = .ok (.getfield 7, 3) := by decide +kernel
theorem dMo_assign_22 : decode cMo_assign 22 = .ok (.ifCond .eq 5, 3) := by decide +kernel
theorem dMo_assign_25 : decode cMo_assign 25 = .ok (.iconst 0, 1) := by decide +kernel
theorem dMo_assign_26 : decode cMo_assign 26 = .ok (.ireturn, 1) := by decide +kernel
theorem dMo_assign_27 : decode cMo_assign 27 = .ok (.aload_n 0, 1) := by decide +kernel
theorem dMo_assign_28 : decode cMo_assign 28 = .ok (.invokevirtual 139, 3) := by decide +kernel
theorem dMo_assign_31 : decode cMo_assign 31 = .ok (.aload_n 0, 1) := by decide +kernel
theorem dMo_assign_32 : decode cMo_assign 32 = .ok (.aload_n 0, 1) := by decide +kernel
theorem dMo_assign_33 : decode cMo_assign 33 = .ok (.getfield 79, 3) := by decide +kernel
theorem dMo_assign_36 : decode cMo_assign 36 = .ok (.iload_n 1, 1) := by decide +kernel
theorem dMo_assign_37 : decode cMo_assign 37 = .ok (.if_icmp .gt 7, 3) := by decide +kernel
theorem dMo_assign_40 : decode cMo_assign 40 = .ok (.iconst 1, 1) := by decide +kernel
theorem dMo_assign_41 : decode cMo_assign 41 = .ok (.goto 4, 3) := by decide +kernel
theorem dMo_assign_44 : decode cMo_assign 44 = .ok (.iconst 0, 1) := by decide +kernel
theorem dMo_assign_45 : decode cMo_assign 45 = .ok (.putfield 72, 3) := by decide +kernel
theorem dMo_assign_48 : decode cMo_assign 48 = .ok (.aload_n 0, 1) := by decide +kernel
theorem dMo_assign_49 : decode cMo_assign 49 = .ok (.getfield 72, 3) := by decide +kernel
theorem dMo_assign_52 : decode cMo_assign 52 = .ok (.ifCond .eq 10, 3) := by decide +kernel
theorem dMo_assign_55 : decode cMo_assign 55 = .ok (.aload_n 0, 1) := by decide +kernel
theorem dMo_assign_56 : decode cMo_assign 56 = .ok (.invokevirtual 142, 3) := by decide +kernel
theorem dMo_assign_59 : decode cMo_assign 59 = .ok (.goto 7, 3) := by decide +kernel
theorem dMo_assign_62 : decode cMo_assign 62 = .ok (.aload_n 0, 1) := by decide +kernel
theorem dMo_assign_63 : decode cMo_assign 63 = .ok (.invokevirtual 145, 3) := by decide +kernel
theorem dMo_assign_66 : decode cMo_assign 66 = .ok (.aload_n 0, 1) := by decide +kernel
theorem dMo_assign_67 : decode cMo_assign 67 = .ok (.iconst 0, 1) := by decide +kernel
theorem dMo_assign_68 : decode cMo_assign 68 = .ok (.putfield 76, 3) := by decide +kernel
theorem dMo_assign_71 : decode cMo_assign 71 = .ok (.iconst 0, 1) := by decide +kernel
theorem dMo_assign_72 : decode cMo_assign 72 = .ok (.istore_n 2, 1) := by decide +kernel
theorem dMo_assign_73 : decode cMo_assign 73 = .ok (.iload_n 2, 1) := by decide +kernel
theorem dMo_assign_74 : decode cMo_assign 74 = .ok (.aload_n 0, 1) := by decide +kernel
theorem dMo_assign_75 : decode cMo_assign 75 = .ok (.getfield 79, 3) := by decide +kernel
theorem dMo_assign_78 : decode cMo_assign 78 = .ok (.if_icmp .ge 80, 3) := by decide +kernel
theorem dMo_assign_81 : decode cMo_assign 81 = .ok (.aload_n 0, 1) := by decide +kernel
theorem dMo_assign_82 : decode cMo_assign 82 = .ok (.getfield 82, 3) := by decide +kernel
theorem dMo_assign_85 : decode cMo_assign 85 = .ok (.iload_n 2, 1) := by decide +kernel
theorem dMo_assign_86 : decode cMo_assign 86 = .ok (.iaload, 1) := by decide +kernel
theorem dMo_assign_87 : decode cMo_assign 87 = .ok (.istore_n 3, 1) := by decide +kernel
theorem dMo_assign_88 : decode cMo_assign 88 = .ok (.aload_n 0, 1) := by decide +kernel
theorem dMo_assign_89 : decode cMo_assign 89 = .ok (.getfield 54, 3) := by decide +kernel
theorem dMo_assign_92 : decode cMo_assign 92 = .ok (.iload_n 3, 1) := by decide +kernel
theorem dMo_assign_93 : decode cMo_assign 93 = .ok (.iaload, 1) := by decide +kernel
theorem dMo_assign_94 : decode cMo_assign 94 = .ok (.aload_n 0, 1) := by decide +kernel
theorem dMo_assign_95 : decode cMo_assign 95 = .ok (.getfield 85, 3) := by decide +kernel
theorem dMo_assign_98 : decode cMo_assign 98 = .ok (.iload_n 2, 1) := by decide +kernel
theorem dMo_assign_99 : decode cMo_assign 99 = .ok (.iaload, 1) := by decide +kernel
theorem dMo_assign_100 : decode cMo_assign 100 = .ok (.if_icmp .ne 18, 3) := by decide +kernel
theorem dMo_assign_103 : decode cMo_assign 103 = .ok (.aload_n 0, 1) := by decide +kernel
theorem dMo_assign_104 : decode cMo_assign 104 = .ok (.getfield 57, 3) := by decide +kernel
theorem dMo_assign_107 : decode cMo_assign 107 = .ok (.iload_n 3, 1) := by decide +kernel
theorem dMo_assign_108 : decode cMo_assign 108 = .ok (.iaload, 1) := by decide +kernel
theorem dMo_assign_109 : decode cMo_assign 109 = .ok (.aload_n 0, 1) := by decide +kernel
theorem dMo_assign_110 : decode cMo_assign 110 = .ok (.getfield 88, 3) := by decide +kernel
theorem dMo_assign_113 : decode cMo_assign 113 = .ok (.iload_n 2, 1) := by decide +kernel
theorem dMo_assign_114 : decode cMo_assign 114 = .ok (.iaload, 1) := by decide +kernel
theorem dMo_assign_115 : decode cMo_assign 115 = .ok (.if_icmp .eq 13, 3) := by decide +kernel
theorem dMo_assign_118 : decode cMo_assign 118 = .ok (.aload_n 0, 1) := by decide +kernel
theorem dMo_assign_119 : decode cMo_assign 119 = .ok (.dup, 1) := by decide +kernel
theorem dMo_assign_120 : decode cMo_assign 120 = .ok (.getfield 76, 3) := by decide +kernel
theorem dMo_assign_123 : decode cMo_assign 123 = .ok (.iconst 1, 1) := by decide +kernel
theorem dMo_assign_124 : decode cMo_assign 124 = .ok (.iadd, 1) := by decide +kernel
theorem dMo_assign_125 : decode cMo_assign 125 = .ok (.putfield 76, 3) := by decide +kernel
theorem dMo_assign_128 : decode cMo_assign 128 = .ok (.aload_n 0, 1) := by decide +kernel
theorem dMo_assign_129 : decode cMo_assign 129 = .ok (.getfield 54, 3) := by decide +kernel
theorem dMo_assign_132 : decode cMo_assign 132 = .ok (.iload_n 3, 1) := by decide +kernel
theorem dMo_assign_133 : decode cMo_assign 133 = .ok (.aload_n 0, 1) := by decide +kernel
theorem dMo_assign_134 : decode cMo_assign 134 = .ok (.getfield 85, 3) := by decide +kernel
theorem dMo_assign_137 : decode cMo_assign 137 = .ok (.iload_n 2, 1) := by decide +kernel
theorem dMo_assign_138 : decode cMo_assign 138 = .ok (.iaload, 1) := by decide +kernel
theorem dMo_assign_139 : decode cMo_assign 139 = .ok (.iastore, 1) := by decide +kernel
theorem dMo_assign_140 : decode cMo_assign 140 = .ok (.aload_n 0, 1) := by decide +kernel
theorem dMo_assign_141 : decode cMo_assign 141 = .ok (.getfield 57, 3) := by decide +kernel
theorem dMo_assign_144 : decode cMo_assign 144 = .ok (.iload_n 3, 1) := by decide +kernel
theorem dMo_assign_145 : decode cMo_assign 145 = .ok (.aload_n 0, 1) := by decide +kernel
theorem dMo_assign_146 : decode cMo_assign 146 = .ok (.getfield 88, 3) := by decide +kernel
theorem dMo_assign_149 : decode cMo_assign 149 = .ok (.iload_n 2, 1) := by decide +kernel
theorem dMo_assign_150 : decode cMo_assign 150 = .ok (.iaload, 1) := by decide +kernel
theorem dMo_assign_151 : decode cMo_assign 151 = .ok (.iastore, 1) := by decide +kernel
theorem dMo_assign_152 : decode cMo_assign 152 = .ok (.iinc 2 1, 3) := by decide +kernel
theorem dMo_assign_155 : decode cMo_assign 155 = .ok (.goto (-82), 3) := by decide +kernel
theorem dMo_assign_158 : decode cMo_assign 158 = .ok (.aload_n 0, 1) := by decide +kernel
theorem dMo_assign_159 : decode cMo_assign 159 = .ok (.invokevirtual 148, 3) := by decide +kernel
theorem dMo_assign_162 : decode cMo_assign 162 = .ok (.ireturn, 1) := by decide +kernel
abbrev cMo_exact : ByteArray := prog_7_method_22_code
abbrev mMo_exact : MD := (⟨"DockBookModel", "exact", "()Z"⟩, cMo_exact, 1, some (.boolean), [])
theorem dMo_exact_0 : decode cMo_exact 0 = .ok (.aload_n 0, 1) := by decide +kernel
theorem dMo_exact_1 : decode cMo_exact 1 = .ok (.iconst 0, 1) := by decide +kernel
theorem dMo_exact_2 : decode cMo_exact 2 = .ok (.putfield 7, 3) := by decide +kernel
theorem dMo_exact_5 : decode cMo_exact 5 = .ok (.aload_n 0, 1) := by decide +kernel
theorem dMo_exact_6 : decode cMo_exact 6 = .ok (.getfield 72, 3) := by decide +kernel
theorem dMo_exact_9 : decode cMo_exact 9 = .ok (.ireturn, 1) := by decide +kernel
abbrev cMo_moved : ByteArray := prog_7_method_23_code
abbrev mMo_moved : MD := (⟨"DockBookModel", "moved", "()I"⟩, cMo_moved, 1, some (.int), [])
theorem dMo_moved_0 : decode cMo_moved 0 = .ok (.aload_n 0, 1) := by decide +kernel
theorem dMo_moved_1 : decode cMo_moved 1 = .ok (.iconst 0, 1) := by decide +kernel
theorem dMo_moved_2 : decode cMo_moved 2 = .ok (.putfield 7, 3) := by decide +kernel
theorem dMo_moved_5 : decode cMo_moved 5 = .ok (.aload_n 0, 1) := by decide +kernel
theorem dMo_moved_6 : decode cMo_moved 6 = .ok (.getfield 76, 3) := by decide +kernel
theorem dMo_moved_9 : decode cMo_moved 9 = .ok (.ireturn, 1) := by decide +kernel
abbrev cMo_bound : ByteArray := prog_7_method_24_code
abbrev mMo_bound : MD := (⟨"DockBookModel", "bound", "()I"⟩, cMo_bound, 6, some (.int), [])
theorem dMo_bound_0 : decode cMo_bound 0 = .ok (.aload_n 0, 1) := by decide +kernel
theorem dMo_bound_1 : decode cMo_bound 1 = .ok (.iconst 0, 1) := by decide +kernel
theorem dMo_bound_2 : decode cMo_bound 2 = .ok (.putfield 7, 3) := by decide +kernel
theorem dMo_bound_5 : decode cMo_bound 5 = .ok (.iconst 0, 1) := by decide +kernel
theorem dMo_bound_6 : decode cMo_bound 6 = .ok (.istore_n 1, 1) := by decide +kernel
theorem dMo_bound_7 : decode cMo_bound 7 = .ok (.iconst 0, 1) := by decide +kernel
theorem dMo_bound_8 : decode cMo_bound 8 = .ok (.istore_n 2, 1) := by decide +kernel
theorem dMo_bound_9 : decode cMo_bound 9 = .ok (.iload_n 2, 1) := by decide +kernel
theorem dMo_bound_10 : decode cMo_bound 10 = .ok (.aload_n 0, 1) := by decide +kernel
theorem dMo_bound_11 : decode cMo_bound 11 = .ok (.getfield 36, 3) := by decide +kernel
theorem dMo_bound_14 : decode cMo_bound 14 = .ok (.if_icmp .ge 87, 3) := by decide +kernel
theorem dMo_bound_17 : decode cMo_bound 17 = .ok (.aload_n 0, 1) := by decide +kernel
theorem dMo_bound_18 : decode cMo_bound 18 = .ok (.getfield 39, 3) := by decide +kernel
theorem dMo_bound_21 : decode cMo_bound 21 = .ok (.iload_n 2, 1) := by decide +kernel
theorem dMo_bound_22 : decode cMo_bound 22 = .ok (.iaload, 1) := by decide +kernel
theorem dMo_bound_23 : decode cMo_bound 23 = .ok (.ifCond .ne 72, 3) := by decide +kernel
theorem dMo_bound_26 : decode cMo_bound 26 = .ok (.sipush 5000, 3) := by decide +kernel
theorem dMo_bound_29 : decode cMo_bound 29 = .ok (.istore_n 3, 1) := by decide +kernel
theorem dMo_bound_30 : decode cMo_bound 30 = .ok (.iconst 0, 1) := by decide +kernel
theorem dMo_bound_31 : decode cMo_bound 31 = .ok (.istore 4, 2) := by decide +kernel
theorem dMo_bound_33 : decode cMo_bound 33 = .ok (.iload 4, 2) := by decide +kernel
theorem dMo_bound_35 : decode cMo_bound 35 = .ok (.aload_n 0, 1) := by decide +kernel
theorem dMo_bound_36 : decode cMo_bound 36 = .ok (.getfield 16, 3) := by decide +kernel
theorem dMo_bound_39 : decode cMo_bound 39 = .ok (.if_icmp .ge 52, 3) := by decide +kernel
theorem dMo_bound_42 : decode cMo_bound 42 = .ok (.aload_n 0, 1) := by decide +kernel
theorem dMo_bound_43 : decode cMo_bound 43 = .ok (.iload_n 2, 1) := by decide +kernel
theorem dMo_bound_44 : decode cMo_bound 44 = .ok (.iload 4, 2) := by decide +kernel
theorem dMo_bound_46 : decode cMo_bound 46 = .ok (.aload_n 0, 1) := by decide +kernel
theorem dMo_bound_47 : decode cMo_bound 47 = .ok (.iload 4, 2) := by decide +kernel
theorem dMo_bound_49 : decode cMo_bound 49 = .ok (.invokevirtual 107, 3) := by decide +kernel
theorem dMo_bound_52 : decode cMo_bound 52 = .ok (.invokevirtual 110, 3) := by decide +kernel
theorem dMo_bound_55 : decode cMo_bound 55 = .ok (.istore 5, 2) := by decide +kernel
theorem dMo_bound_57 : decode cMo_bound 57 = .ok (.iload 5, 2) := by decide +kernel
theorem dMo_bound_59 : decode cMo_bound 59 = .ok (.ifCond .lt 26, 3) := by decide +kernel
theorem dMo_bound_62 : decode cMo_bound 62 = .ok (.iload 5, 2) := by decide +kernel
theorem dMo_bound_64 : decode cMo_bound 64 = .ok (.aload_n 0, 1) := by decide +kernel
theorem dMo_bound_65 : decode cMo_bound 65 = .ok (.getfield 45, 3) := by decide +kernel
theorem dMo_bound_68 : decode cMo_bound 68 = .ok (.iload_n 2, 1) := by decide +kernel
theorem dMo_bound_69 : decode cMo_bound 69 = .ok (.iaload, 1) := by decide +kernel
theorem dMo_bound_70 : decode cMo_bound 70 = .ok (.isub, 1) := by decide +kernel
theorem dMo_bound_71 : decode cMo_bound 71 = .ok (.iload_n 3, 1) := by decide +kernel
theorem dMo_bound_72 : decode cMo_bound 72 = .ok (.if_icmp .ge 13, 3) := by decide +kernel
theorem dMo_bound_75 : decode cMo_bound 75 = .ok (.iload 5, 2) := by decide +kernel
theorem dMo_bound_77 : decode cMo_bound 77 = .ok (.aload_n 0, 1) := by decide +kernel
theorem dMo_bound_78 : decode cMo_bound 78 = .ok (.getfield 45, 3) := by decide +kernel
theorem dMo_bound_81 : decode cMo_bound 81 = .ok (.iload_n 2, 1) := by decide +kernel
theorem dMo_bound_82 : decode cMo_bound 82 = .ok (.iaload, 1) := by decide +kernel
theorem dMo_bound_83 : decode cMo_bound 83 = .ok (.isub, 1) := by decide +kernel
theorem dMo_bound_84 : decode cMo_bound 84 = .ok (.istore_n 3, 1) := by decide +kernel
theorem dMo_bound_85 : decode cMo_bound 85 = .ok (.iinc 4 1, 3) := by decide +kernel
theorem dMo_bound_88 : decode cMo_bound 88 = .ok (.goto (-55), 3) := by decide +kernel
theorem dMo_bound_91 : decode cMo_bound 91 = .ok (.iload_n 1, 1) := by decide +kernel
theorem dMo_bound_92 : decode cMo_bound 92 = .ok (.iload_n 3, 1) := by decide +kernel
theorem dMo_bound_93 : decode cMo_bound 93 = .ok (.iadd, 1) := by decide +kernel
theorem dMo_bound_94 : decode cMo_bound 94 = .ok (.istore_n 1, 1) := by decide +kernel
theorem dMo_bound_95 : decode cMo_bound 95 = .ok (.iinc 2 1, 3) := by decide +kernel
theorem dMo_bound_98 : decode cMo_bound 98 = .ok (.goto (-89), 3) := by decide +kernel
theorem dMo_bound_101 : decode cMo_bound 101 = .ok (.iload_n 1, 1) := by decide +kernel
theorem dMo_bound_102 : decode cMo_bound 102 = .ok (.ireturn, 1) := by decide +kernel
abbrev cMo_call : ByteArray := prog_7_method_25_code
abbrev mMo_call : MD := (⟨"DockBookModel", "call", "(I)V"⟩, cMo_call, 3, none, [])
theorem dMo_call_0 : decode cMo_call 0 = .ok (.aload_n 0, 1) := by decide +kernel
theorem dMo_call_1 : decode cMo_call 1 = .ok (.aload_n 0, 1) := by decide +kernel
theorem dMo_call_2 : decode cMo_call 2 = .ok (.iload_n 1, 1) := by decide +kernel
theorem dMo_call_3 : decode cMo_call 3 = .ok (.invokevirtual 152, 3) := by decide +kernel
theorem dMo_call_6 : decode cMo_call 6 = .ok (.ifCond .eq 7, 3) := by decide +kernel
theorem dMo_call_9 : decode cMo_call 9 = .ok (.iconst 1, 1) := by decide +kernel
theorem dMo_call_10 : decode cMo_call 10 = .ok (.goto 26, 3) := by decide +kernel
theorem dMo_call_13 : decode cMo_call 13 = .ok (.aload_n 0, 1) := by decide +kernel
theorem dMo_call_14 : decode cMo_call 14 = .ok (.getfield 39, 3) := by decide +kernel
theorem dMo_call_17 : decode cMo_call 17 = .ok (.iload_n 1, 1) := by decide +kernel
theorem dMo_call_18 : decode cMo_call 18 = .ok (.iaload, 1) := by decide +kernel
theorem dMo_call_19 : decode cMo_call 19 = .ok (.ifCond .ne 12, 3) := by decide +kernel
theorem dMo_call_22 : decode cMo_call 22 = .ok (.aload_n 0, 1) := by decide +kernel
theorem dMo_call_23 : decode cMo_call 23 = .ok (.getfield 54, 3) := by decide +kernel
theorem dMo_call_26 : decode cMo_call 26 = .ok (.iload_n 1, 1) := by decide +kernel
theorem dMo_call_27 : decode cMo_call 27 = .ok (.iaload, 1) := by decide +kernel
theorem dMo_call_28 : decode cMo_call 28 = .ok (.ifCond .ge 7, 3) := by decide +kernel
theorem dMo_call_31 : decode cMo_call 31 = .ok (.iconst 2, 1) := by decide +kernel
theorem dMo_call_32 : decode cMo_call 32 = .ok (.goto 4, 3) := by decide +kernel
theorem dMo_call_35 : decode cMo_call 35 = .ok (.iconst 0, 1) := by decide +kernel
theorem dMo_call_36 : decode cMo_call 36 = .ok (.putfield 7, 3) := by decide +kernel
theorem dMo_call_39 : decode cMo_call 39 = .ok (.aload_n 0, 1) := by decide +kernel
theorem dMo_call_40 : decode cMo_call 40 = .ok (.getfield 7, 3) := by decide +kernel
theorem dMo_call_43 : decode cMo_call 43 = .ok (.ifCond .eq 4, 3) := by decide +kernel
theorem dMo_call_46 : decode cMo_call 46 = .ok (.return_, 1) := by decide +kernel
theorem dMo_call_47 : decode cMo_call 47 = .ok (.aload_n 0, 1) := by decide +kernel
theorem dMo_call_48 : decode cMo_call 48 = .ok (.getfield 54, 3) := by decide +kernel
theorem dMo_call_51 : decode cMo_call 51 = .ok (.iload_n 1, 1) := by decide +kernel
theorem dMo_call_52 : decode cMo_call 52 = .ok (.iaload, 1) := by decide +kernel
theorem dMo_call_53 : decode cMo_call 53 = .ok (.istore_n 2, 1) := by decide +kernel
theorem dMo_call_54 : decode cMo_call 54 = .ok (.aload_n 0, 1) := by decide +kernel
theorem dMo_call_55 : decode cMo_call 55 = .ok (.getfield 57, 3) := by decide +kernel
theorem dMo_call_58 : decode cMo_call 58 = .ok (.iload_n 1, 1) := by decide +kernel
theorem dMo_call_59 : decode cMo_call 59 = .ok (.iaload, 1) := by decide +kernel
theorem dMo_call_60 : decode cMo_call 60 = .ok (.aload_n 0, 1) := by decide +kernel
theorem dMo_call_61 : decode cMo_call 61 = .ok (.getfield 13, 3) := by decide +kernel
theorem dMo_call_64 : decode cMo_call 64 = .ok (.if_icmp .gt 40, 3) := by decide +kernel
theorem dMo_call_67 : decode cMo_call 67 = .ok (.aload_n 0, 1) := by decide +kernel
theorem dMo_call_68 : decode cMo_call 68 = .ok (.getfield 29, 3) := by decide +kernel
theorem dMo_call_71 : decode cMo_call 71 = .ok (.iload_n 2, 1) := by decide +kernel
theorem dMo_call_72 : decode cMo_call 72 = .ok (.baload, 1) := by decide +kernel
theorem dMo_call_73 : decode cMo_call 73 = .ok (.ifCond .ne 31, 3) := by decide +kernel
theorem dMo_call_76 : decode cMo_call 76 = .ok (.aload_n 0, 1) := by decide +kernel
theorem dMo_call_77 : decode cMo_call 77 = .ok (.iload_n 2, 1) := by decide +kernel
theorem dMo_call_78 : decode cMo_call 78 = .ok (.invokevirtual 103, 3) := by decide +kernel
theorem dMo_call_81 : decode cMo_call 81 = .ok (.ifCond .ge 23, 3) := by decide +kernel
theorem dMo_call_84 : decode cMo_call 84 = .ok (.aload_n 0, 1) := by decide +kernel
theorem dMo_call_85 : decode cMo_call 85 = .ok (.getfield 13, 3) := by decide +kernel
theorem dMo_call_88 : decode cMo_call 88 = .ok (.aload_n 0, 1) := by decide +kernel
theorem dMo_call_89 : decode cMo_call 89 = .ok (.getfield 48, 3) := by decide +kernel
theorem dMo_call_92 : decode cMo_call 92 = .ok (.iload_n 1, 1) := by decide +kernel
theorem dMo_call_93 : decode cMo_call 93 = .ok (.iaload, 1) := by decide +kernel
theorem dMo_call_94 : decode cMo_call 94 = .ok (.iadd, 1) := by decide +kernel
theorem dMo_call_95 : decode cMo_call 95 = .ok (.aload_n 0, 1) := by decide +kernel
theorem dMo_call_96 : decode cMo_call 96 = .ok (.getfield 26, 3) := by decide +kernel
theorem dMo_call_99 : decode cMo_call 99 = .ok (.iload_n 2, 1) := by decide +kernel
theorem dMo_call_100 : decode cMo_call 100 = .ok (.iaload, 1) := by decide +kernel
theorem dMo_call_101 : decode cMo_call 101 = .ok (.if_icmp .le 9, 3) := by decide +kernel
theorem dMo_call_104 : decode cMo_call 104 = .ok (.aload_n 0, 1) := by decide +kernel
theorem dMo_call_105 : decode cMo_call 105 = .ok (.iconst 2, 1) := by decide +kernel
theorem dMo_call_106 : decode cMo_call 106 = .ok (.putfield 7, 3) := by decide +kernel
theorem dMo_call_109 : decode cMo_call 109 = .ok (.return_, 1) := by decide +kernel
theorem dMo_call_110 : decode cMo_call 110 = .ok (.aload_n 0, 1) := by decide +kernel
theorem dMo_call_111 : decode cMo_call 111 = .ok (.getfield 39, 3) := by decide +kernel
theorem dMo_call_114 : decode cMo_call 114 = .ok (.iload_n 1, 1) := by decide +kernel
theorem dMo_call_115 : decode cMo_call 115 = .ok (.iconst 1, 1) := by decide +kernel
theorem dMo_call_116 : decode cMo_call 116 = .ok (.iastore, 1) := by decide +kernel
theorem dMo_call_117 : decode cMo_call 117 = .ok (.aload_n 0, 1) := by decide +kernel
theorem dMo_call_118 : decode cMo_call 118 = .ok (.getfield 57, 3) := by decide +kernel
theorem dMo_call_121 : decode cMo_call 121 = .ok (.iload_n 1, 1) := by decide +kernel
theorem dMo_call_122 : decode cMo_call 122 = .ok (.aload_n 0, 1) := by decide +kernel
theorem dMo_call_123 : decode cMo_call 123 = .ok (.getfield 13, 3) := by decide +kernel
theorem dMo_call_126 : decode cMo_call 126 = .ok (.iastore, 1) := by decide +kernel
theorem dMo_call_127 : decode cMo_call 127 = .ok (.return_, 1) := by decide +kernel
abbrev cMo_seal : ByteArray := prog_7_method_26_code
abbrev mMo_seal : MD := (⟨"DockBookModel", "seal", "(II)I"⟩, cMo_seal, 3, some (.int), [])
theorem dMo_seal_0 : decode cMo_seal 0 = .ok (.aload_n 0, 1) := by decide +kernel
theorem dMo_seal_1 : decode cMo_seal 1 = .ok (.aload_n 0, 1) := by decide +kernel
theorem dMo_seal_2 : decode cMo_seal 2 = .ok (.iload_n 1, 1) := by decide +kernel
theorem dMo_seal_3 : decode cMo_seal 3 = .ok (.invokevirtual 152, 3) := by decide +kernel
theorem dMo_seal_6 : decode cMo_seal 6 = .ok (.ifCond .eq 7, 3) := by decide +kernel
theorem dMo_seal_9 : decode cMo_seal 9 = .ok (.iconst 1, 1) := by decide +kernel
theorem dMo_seal_10 : decode cMo_seal 10 = .ok (.goto 33, 3) := by decide +kernel
theorem dMo_seal_13 : decode cMo_seal 13 = .ok (.iload_n 2, 1) := by decide +kernel
theorem dMo_seal_14 : decode cMo_seal 14 = .ok (.iconst 0, 1) := by decide +kernel
theorem dMo_seal_15 : decode cMo_seal 15 = .ok (.sipush 9999, 3) := by decide +kernel
theorem dMo_seal_18 : decode cMo_seal 18 = .ok (.invokestatic 131, 3) := by decide +kernel
theorem dMo_seal_21 : decode cMo_seal 21 = .ok (.ifCond .eq 7, 3) := by decide +kernel
theorem dMo_seal_24 : decode cMo_seal 24 = .ok (.iconst 2, 1) := by decide +kernel
theorem dMo_seal_25 : decode cMo_seal 25 = .ok (.goto 18, 3) := by decide +kernel
theorem dMo_seal_28 : decode cMo_seal 28 = .ok (.aload_n 0, 1) := by decide +kernel
theorem dMo_seal_29 : decode cMo_seal 29 = .ok (.getfield 39, 3) := by decide +kernel
theorem dMo_seal_32 : decode cMo_seal 32 = .ok (.iload_n 1, 1) := by decide +kernel
theorem dMo_seal_33 : decode cMo_seal 33 = .ok (.iaload, 1) := by decide +kernel
theorem dMo_seal_34 : decode cMo_seal 34 = .ok (.iconst 1, 1) := by decide +kernel
theorem dMo_seal_35 : decode cMo_seal 35 = .ok (.if_icmp .le 7, 3) := by decide +kernel
theorem dMo_seal_38 : decode cMo_seal 38 = .ok (.iconst 3, 1) := by decide +kernel
theorem dMo_seal_39 : decode cMo_seal 39 = .ok (.goto 4, 3) := by decide +kernel
theorem dMo_seal_42 : decode cMo_seal 42 = .ok (.iconst 0, 1) := by decide +kernel
theorem dMo_seal_43 : decode cMo_seal 43 = .ok (.putfield 7, 3) := by decide +kernel
theorem dMo_seal_46 : decode cMo_seal 46 = .ok (.aload_n 0, 1) := by decide +kernel
theorem dMo_seal_47 : decode cMo_seal 47 = .ok (.getfield 7, 3) := by decide +kernel
theorem dMo_seal_50 : decode cMo_seal 50 = .ok (.ifCond .eq 5, 3) := by decide +kernel
theorem dMo_seal_53 : decode cMo_seal 53 = .ok (.iconst 0, 1) := by decide +kernel
theorem dMo_seal_54 : decode cMo_seal 54 = .ok (.ireturn, 1) := by decide +kernel
theorem dMo_seal_55 : decode cMo_seal 55 = .ok (.aload_n 0, 1) := by decide +kernel
theorem dMo_seal_56 : decode cMo_seal 56 = .ok (.getfield 63, 3) := by decide +kernel
theorem dMo_seal_59 : decode cMo_seal 59 = .ok (.iload_n 1, 1) := by decide +kernel
theorem dMo_seal_60 : decode cMo_seal 60 = .ok (.iaload, 1) := by decide +kernel
theorem dMo_seal_61 : decode cMo_seal 61 = .ok (.ifCond .ge 12, 3) := by decide +kernel
theorem dMo_seal_64 : decode cMo_seal 64 = .ok (.aload_n 0, 1) := by decide +kernel
theorem dMo_seal_65 : decode cMo_seal 65 = .ok (.getfield 63, 3) := by decide +kernel
theorem dMo_seal_68 : decode cMo_seal 68 = .ok (.iload_n 1, 1) := by decide +kernel
theorem dMo_seal_69 : decode cMo_seal 69 = .ok (.iload_n 2, 1) := by decide +kernel
theorem dMo_seal_70 : decode cMo_seal 70 = .ok (.iastore, 1) := by decide +kernel
theorem dMo_seal_71 : decode cMo_seal 71 = .ok (.iconst 0, 1) := by decide +kernel
theorem dMo_seal_72 : decode cMo_seal 72 = .ok (.ireturn, 1) := by decide +kernel
theorem dMo_seal_73 : decode cMo_seal 73 = .ok (.aload_n 0, 1) := by decide +kernel
theorem dMo_seal_74 : decode cMo_seal 74 = .ok (.getfield 66, 3) := by decide +kernel
theorem dMo_seal_77 : decode cMo_seal 77 = .ok (.iload_n 1, 1) := by decide +kernel
theorem dMo_seal_78 : decode cMo_seal 78 = .ok (.aload_n 0, 1) := by decide +kernel
theorem dMo_seal_79 : decode cMo_seal 79 = .ok (.getfield 63, 3) := by decide +kernel
theorem dMo_seal_82 : decode cMo_seal 82 = .ok (.iload_n 1, 1) := by decide +kernel
theorem dMo_seal_83 : decode cMo_seal 83 = .ok (.iaload, 1) := by decide +kernel
theorem dMo_seal_84 : decode cMo_seal 84 = .ok (.iload_n 2, 1) := by decide +kernel
theorem dMo_seal_85 : decode cMo_seal 85 = .ok (.if_icmp .ne 7, 3) := by decide +kernel
theorem dMo_seal_88 : decode cMo_seal 88 = .ok (.iconst 1, 1) := by decide +kernel
theorem dMo_seal_89 : decode cMo_seal 89 = .ok (.goto 4, 3) := by decide +kernel
theorem dMo_seal_92 : decode cMo_seal 92 = .ok (.iconst 0, 1) := by decide +kernel
theorem dMo_seal_93 : decode cMo_seal 93 = .ok (.bastore, 1) := by decide +kernel
theorem dMo_seal_94 : decode cMo_seal 94 = .ok (.aload_n 0, 1) := by decide +kernel
theorem dMo_seal_95 : decode cMo_seal 95 = .ok (.getfield 66, 3) := by decide +kernel
theorem dMo_seal_98 : decode cMo_seal 98 = .ok (.iload_n 1, 1) := by decide +kernel
theorem dMo_seal_99 : decode cMo_seal 99 = .ok (.baload, 1) := by decide +kernel
theorem dMo_seal_100 : decode cMo_seal 100 = .ok (.ifCond .ne 10, 3) := by decide +kernel
theorem dMo_seal_103 : decode cMo_seal 103 = .ok (.aload_n 0, 1) := by decide +kernel
theorem dMo_seal_104 : decode cMo_seal 104 = .ok (.getfield 63, 3) := by decide +kernel
theorem dMo_seal_107 : decode cMo_seal 107 = .ok (.iload_n 1, 1) := by decide +kernel
theorem dMo_seal_108 : decode cMo_seal 108 = .ok (.iconst (-1), 1) := by decide +kernel
theorem dMo_seal_109 : decode cMo_seal 109 = .ok (.iastore, 1) := by decide +kernel
theorem dMo_seal_110 : decode cMo_seal 110 = .ok (.aload_n 0, 1) := by decide +kernel
theorem dMo_seal_111 : decode cMo_seal 111 = .ok (.getfield 66, 3) := by decide +kernel
theorem dMo_seal_114 : decode cMo_seal 114 = .ok (.iload_n 1, 1) := by decide +kernel
theorem dMo_seal_115 : decode cMo_seal 115 = .ok (.baload, 1) := by decide +kernel
theorem dMo_seal_116 : decode cMo_seal 116 = .ok (.ifCond .eq 7, 3) := by decide +kernel
theorem dMo_seal_119 : decode cMo_seal 119 = .ok (.iconst 1, 1) := by decide +kernel
theorem dMo_seal_120 : decode cMo_seal 120 = .ok (.goto 4, 3) := by decide +kernel
theorem dMo_seal_123 : decode cMo_seal 123 = .ok (.iconst 2, 1) := by decide +kernel
theorem dMo_seal_124 : decode cMo_seal 124 = .ok (.ireturn, 1) := by decide +kernel
abbrev cMo_load : ByteArray := prog_7_method_27_code
abbrev mMo_load : MD := (⟨"DockBookModel", "load", "(III)Z"⟩, cMo_load, 4, some (.boolean), [])
theorem dMo_load_0 : decode cMo_load 0 = .ok (.aload_n 0, 1) := by decide +kernel
theorem dMo_load_1 : decode cMo_load 1 = .ok (.aload_n 0, 1) := by decide +kernel
theorem dMo_load_2 : decode cMo_load 2 = .ok (.iload_n 1, 1) := by decide +kernel
theorem dMo_load_3 : decode cMo_load 3 = .ok (.invokevirtual 152, 3) := by decide +kernel
theorem dMo_load_6 : decode cMo_load 6 = .ok (.ifCond .eq 7, 3) := by decide +kernel
theorem dMo_load_9 : decode cMo_load 9 = .ok (.iconst 1, 1) := by decide +kernel
theorem dMo_load_10 : decode cMo_load 10 = .ok (.goto 44, 3) := by decide +kernel
theorem dMo_load_13 : decode cMo_load 13 = .ok (.iload_n 2, 1) := by decide +kernel
theorem dMo_load_14 : decode cMo_load 14 = .ok (.iconst 0, 1) := by decide +kernel
theorem dMo_load_15 : decode cMo_load 15 = .ok (.sipush 10000, 3) := by decide +kernel
theorem dMo_load_18 : decode cMo_load 18 = .ok (.invokestatic 131, 3) := by decide +kernel
theorem dMo_load_21 : decode cMo_load 21 = .ok (.ifCond .ne 14, 3) := by decide +kernel
theorem dMo_load_24 : decode cMo_load 24 = .ok (.iload_n 3, 1) := by decide +kernel
theorem dMo_load_25 : decode cMo_load 25 = .ok (.iconst 0, 1) := by decide +kernel
theorem dMo_load_26 : decode cMo_load 26 = .ok (.sipush 10000, 3) := by decide +kernel
theorem dMo_load_29 : decode cMo_load 29 = .ok (.invokestatic 131, 3) := by decide +kernel
theorem dMo_load_32 : decode cMo_load 32 = .ok (.ifCond .eq 7, 3) := by decide +kernel
theorem dMo_load_35 : decode cMo_load 35 = .ok (.iconst 2, 1) := by decide +kernel
theorem dMo_load_36 : decode cMo_load 36 = .ok (.goto 18, 3) := by decide +kernel
theorem dMo_load_39 : decode cMo_load 39 = .ok (.aload_n 0, 1) := by decide +kernel
theorem dMo_load_40 : decode cMo_load 40 = .ok (.getfield 39, 3) := by decide +kernel
theorem dMo_load_43 : decode cMo_load 43 = .ok (.iload_n 1, 1) := by decide +kernel
theorem dMo_load_44 : decode cMo_load 44 = .ok (.iaload, 1) := by decide +kernel
theorem dMo_load_45 : decode cMo_load 45 = .ok (.iconst 1, 1) := by decide +kernel
theorem dMo_load_46 : decode cMo_load 46 = .ok (.if_icmp .eq 7, 3) := by decide +kernel
theorem dMo_load_49 : decode cMo_load 49 = .ok (.iconst 3, 1) := by decide +kernel
theorem dMo_load_50 : decode cMo_load 50 = .ok (.goto 4, 3) := by decide +kernel
theorem dMo_load_53 : decode cMo_load 53 = .ok (.iconst 0, 1) := by decide +kernel
theorem dMo_load_54 : decode cMo_load 54 = .ok (.putfield 7, 3) := by decide +kernel
theorem dMo_load_57 : decode cMo_load 57 = .ok (.aload_n 0, 1) := by decide +kernel
theorem dMo_load_58 : decode cMo_load 58 = .ok (.getfield 7, 3) := by decide +kernel
theorem dMo_load_61 : decode cMo_load 61 = .ok (.ifCond .eq 5, 3) := by decide +kernel
theorem dMo_load_64 : decode cMo_load 64 = .ok (.iconst 0, 1) := by decide +kernel
theorem dMo_load_65 : decode cMo_load 65 = .ok (.ireturn, 1) := by decide +kernel
theorem dMo_load_66 : decode cMo_load 66 = .ok (.aload_n 0, 1) := by decide +kernel
theorem dMo_load_67 : decode cMo_load 67 = .ok (.getfield 69, 3) := by decide +kernel
theorem dMo_load_70 : decode cMo_load 70 = .ok (.iload_n 1, 1) := by decide +kernel
theorem dMo_load_71 : decode cMo_load 71 = .ok (.iload_n 2, 1) := by decide +kernel
theorem dMo_load_72 : decode cMo_load 72 = .ok (.iload_n 3, 1) := by decide +kernel
theorem dMo_load_73 : decode cMo_load 73 = .ok (.if_icmp .ne 7, 3) := by decide +kernel
theorem dMo_load_76 : decode cMo_load 76 = .ok (.iconst 1, 1) := by decide +kernel
theorem dMo_load_77 : decode cMo_load 77 = .ok (.goto 4, 3) := by decide +kernel
theorem dMo_load_80 : decode cMo_load 80 = .ok (.iconst 0, 1) := by decide +kernel
theorem dMo_load_81 : decode cMo_load 81 = .ok (.bastore, 1) := by decide +kernel
theorem dMo_load_82 : decode cMo_load 82 = .ok (.aload_n 0, 1) := by decide +kernel
theorem dMo_load_83 : decode cMo_load 83 = .ok (.getfield 69, 3) := by decide +kernel
theorem dMo_load_86 : decode cMo_load 86 = .ok (.iload_n 1, 1) := by decide +kernel
theorem dMo_load_87 : decode cMo_load 87 = .ok (.baload, 1) := by decide +kernel
theorem dMo_load_88 : decode cMo_load 88 = .ok (.ireturn, 1) := by decide +kernel
abbrev cMo_depart : ByteArray := prog_7_method_28_code
abbrev mMo_depart : MD := (⟨"DockBookModel", "depart", "(I)I"⟩, cMo_depart, 2, some (.int), [])
theorem dMo_depart_0 : decode cMo_depart 0 = .ok (.aload_n 0, 1) := by decide +kernel
theorem dMo_depart_1 : decode cMo_depart 1 = .ok (.aload_n 0, 1) := by decide +kernel
theorem dMo_depart_2 : decode cMo_depart 2 = .ok (.iload_n 1, 1) := by decide +kernel
theorem dMo_depart_3 : decode cMo_depart 3 = .ok (.invokevirtual 152, 3) := by decide +kernel
theorem dMo_depart_6 : decode cMo_depart 6 = .ok (.ifCond .eq 7, 3) := by decide +kernel
theorem dMo_depart_9 : decode cMo_depart 9 = .ok (.iconst 1, 1) := by decide +kernel
theorem dMo_depart_10 : decode cMo_depart 10 = .ok (.goto 18, 3) := by decide +kernel
theorem dMo_depart_13 : decode cMo_depart 13 = .ok (.aload_n 0, 1) := by decide +kernel
theorem dMo_depart_14 : decode cMo_depart 14 = .ok (.getfield 39, 3) := by decide +kernel
theorem dMo_depart_17 : decode cMo_depart 17 = .ok (.iload_n 1, 1) := by decide +kernel
theorem dMo_depart_18 : decode cMo_depart 18 = .ok (.iaload, 1) := by decide +kernel
theorem dMo_depart_19 : decode cMo_depart 19 = .ok (.iconst 1, 1) := by decide +kernel
theorem dMo_depart_20 : decode cMo_depart 20 = .ok (.if_icmp .eq 7, 3) := by decide +kernel
theorem dMo_depart_23 : decode cMo_depart 23 = .ok (.iconst 2, 1) := by decide +kernel
theorem dMo_depart_24 : decode cMo_depart 24 = .ok (.goto 4, 3) := by decide +kernel
theorem dMo_depart_27 : decode cMo_depart 27 = .ok (.iconst 0, 1) := by decide +kernel
theorem dMo_depart_28 : decode cMo_depart 28 = .ok (.putfield 7, 3) := by decide +kernel
theorem dMo_depart_31 : decode cMo_depart 31 = .ok (.aload_n 0, 1) := by decide +kernel
theorem dMo_depart_32 : decode cMo_depart 32 = .ok (.getfield 7, 3) := by decide +kernel
theorem dMo_depart_35 : decode cMo_depart 35 = .ok (.ifCond .eq 5, 3) := by decide +kernel
theorem dMo_depart_38 : decode cMo_depart 38 = .ok (.iconst 0, 1) := by decide +kernel
theorem dMo_depart_39 : decode cMo_depart 39 = .ok (.ireturn, 1) := by decide +kernel
theorem dMo_depart_40 : decode cMo_depart 40 = .ok (.aload_n 0, 1) := by decide +kernel
theorem dMo_depart_41 : decode cMo_depart 41 = .ok (.getfield 66, 3) := by decide +kernel
theorem dMo_depart_44 : decode cMo_depart 44 = .ok (.iload_n 1, 1) := by decide +kernel
theorem dMo_depart_45 : decode cMo_depart 45 = .ok (.baload, 1) := by decide +kernel
theorem dMo_depart_46 : decode cMo_depart 46 = .ok (.ifCond .ne 5, 3) := by decide +kernel
theorem dMo_depart_49 : decode cMo_depart 49 = .ok (.iconst 2, 1) := by decide +kernel
theorem dMo_depart_50 : decode cMo_depart 50 = .ok (.ireturn, 1) := by decide +kernel
theorem dMo_depart_51 : decode cMo_depart 51 = .ok (.aload_n 0, 1) := by decide +kernel
theorem dMo_depart_52 : decode cMo_depart 52 = .ok (.getfield 69, 3) := by decide +kernel
theorem dMo_depart_55 : decode cMo_depart 55 = .ok (.iload_n 1, 1) := by decide +kernel
theorem dMo_depart_56 : decode cMo_depart 56 = .ok (.baload, 1) := by decide +kernel
theorem dMo_depart_57 : decode cMo_depart 57 = .ok (.ifCond .ne 5, 3) := by decide +kernel
theorem dMo_depart_60 : decode cMo_depart 60 = .ok (.iconst 3, 1) := by decide +kernel
theorem dMo_depart_61 : decode cMo_depart 61 = .ok (.ireturn, 1) := by decide +kernel
theorem dMo_depart_62 : decode cMo_depart 62 = .ok (.aload_n 0, 1) := by decide +kernel
theorem dMo_depart_63 : decode cMo_depart 63 = .ok (.getfield 57, 3) := by decide +kernel
theorem dMo_depart_66 : decode cMo_depart 66 = .ok (.iload_n 1, 1) := by decide +kernel
theorem dMo_depart_67 : decode cMo_depart 67 = .ok (.iaload, 1) := by decide +kernel
theorem dMo_depart_68 : decode cMo_depart 68 = .ok (.aload_n 0, 1) := by decide +kernel
theorem dMo_depart_69 : decode cMo_depart 69 = .ok (.getfield 48, 3) := by decide +kernel
theorem dMo_depart_72 : decode cMo_depart 72 = .ok (.iload_n 1, 1) := by decide +kernel
theorem dMo_depart_73 : decode cMo_depart 73 = .ok (.iaload, 1) := by decide +kernel
theorem dMo_depart_74 : decode cMo_depart 74 = .ok (.iadd, 1) := by decide +kernel
theorem dMo_depart_75 : decode cMo_depart 75 = .ok (.aload_n 0, 1) := by decide +kernel
theorem dMo_depart_76 : decode cMo_depart 76 = .ok (.getfield 13, 3) := by decide +kernel
theorem dMo_depart_79 : decode cMo_depart 79 = .ok (.if_icmp .le 5, 3) := by decide +kernel
theorem dMo_depart_82 : decode cMo_depart 82 = .ok (.iconst 4, 1) := by decide +kernel
theorem dMo_depart_83 : decode cMo_depart 83 = .ok (.ireturn, 1) := by decide +kernel
theorem dMo_depart_84 : decode cMo_depart 84 = .ok (.aload_n 0, 1) := by decide +kernel
theorem dMo_depart_85 : decode cMo_depart 85 = .ok (.getfield 39, 3) := by decide +kernel
theorem dMo_depart_88 : decode cMo_depart 88 = .ok (.iload_n 1, 1) := by decide +kernel
theorem dMo_depart_89 : decode cMo_depart 89 = .ok (.iconst 2, 1) := by decide +kernel
theorem dMo_depart_90 : decode cMo_depart 90 = .ok (.iastore, 1) := by decide +kernel
theorem dMo_depart_91 : decode cMo_depart 91 = .ok (.aload_n 0, 1) := by decide +kernel
theorem dMo_depart_92 : decode cMo_depart 92 = .ok (.getfield 60, 3) := by decide +kernel
theorem dMo_depart_95 : decode cMo_depart 95 = .ok (.iload_n 1, 1) := by decide +kernel
theorem dMo_depart_96 : decode cMo_depart 96 = .ok (.aload_n 0, 1) := by decide +kernel
theorem dMo_depart_97 : decode cMo_depart 97 = .ok (.getfield 13, 3) := by decide +kernel
theorem dMo_depart_100 : decode cMo_depart 100 = .ok (.aload_n 0, 1) := by decide +kernel
theorem dMo_depart_101 : decode cMo_depart 101 = .ok (.getfield 45, 3) := by decide +kernel
theorem dMo_depart_104 : decode cMo_depart 104 = .ok (.iload_n 1, 1) := by decide +kernel
theorem dMo_depart_105 : decode cMo_depart 105 = .ok (.iaload, 1) := by decide +kernel
theorem dMo_depart_106 : decode cMo_depart 106 = .ok (.isub, 1) := by decide +kernel
theorem dMo_depart_107 : decode cMo_depart 107 = .ok (.iastore, 1) := by decide +kernel
theorem dMo_depart_108 : decode cMo_depart 108 = .ok (.aload_n 0, 1) := by decide +kernel
theorem dMo_depart_109 : decode cMo_depart 109 = .ok (.getfield 33, 3) := by decide +kernel
theorem dMo_depart_112 : decode cMo_depart 112 = .ok (.aload_n 0, 1) := by decide +kernel
theorem dMo_depart_113 : decode cMo_depart 113 = .ok (.getfield 54, 3) := by decide +kernel
theorem dMo_depart_116 : decode cMo_depart 116 = .ok (.iload_n 1, 1) := by decide +kernel
theorem dMo_depart_117 : decode cMo_depart 117 = .ok (.iaload, 1) := by decide +kernel
theorem dMo_depart_118 : decode cMo_depart 118 = .ok (.aload_n 0, 1) := by decide +kernel
theorem dMo_depart_119 : decode cMo_depart 119 = .ok (.getfield 33, 3) := by decide +kernel
theorem dMo_depart_122 : decode cMo_depart 122 = .ok (.aload_n 0, 1) := by decide +kernel
theorem dMo_depart_123 : decode cMo_depart 123 = .ok (.getfield 54, 3) := by decide +kernel
theorem dMo_depart_126 : decode cMo_depart 126 = .ok (.iload_n 1, 1) := by decide +kernel
theorem dMo_depart_127 : decode cMo_depart 127 = .ok (.iaload, 1) := by decide +kernel
theorem dMo_depart_128 : decode cMo_depart 128 = .ok (.iaload, 1) := by decide +kernel
theorem dMo_depart_129 : decode cMo_depart 129 = .ok (.iconst 1, 1) := by decide +kernel
theorem dMo_depart_130 : decode cMo_depart 130 = .ok (.iadd, 1) := by decide +kernel
theorem dMo_depart_131 : decode cMo_depart 131 = .ok (.iastore, 1) := by decide +kernel
theorem dMo_depart_132 : decode cMo_depart 132 = .ok (.iconst 1, 1) := by decide +kernel
theorem dMo_depart_133 : decode cMo_depart 133 = .ok (.ireturn, 1) := by decide +kernel
abbrev cMo_late : ByteArray := prog_7_method_29_code
abbrev mMo_late : MD := (⟨"DockBookModel", "late", "(II)Z"⟩, cMo_late, 4, some (.boolean), [])
theorem dMo_late_0 : decode cMo_late 0 = .ok (.aload_n 0, 1) := by decide +kernel
theorem dMo_late_1 : decode cMo_late 1 = .ok (.aload_n 0, 1) := by decide +kernel
theorem dMo_late_2 : decode cMo_late 2 = .ok (.iload_n 1, 1) := by decide +kernel
theorem dMo_late_3 : decode cMo_late 3 = .ok (.invokevirtual 152, 3) := by decide +kernel
theorem dMo_late_6 : decode cMo_late 6 = .ok (.ifCond .eq 7, 3) := by decide +kernel
theorem dMo_late_9 : decode cMo_late 9 = .ok (.iconst 1, 1) := by decide +kernel
theorem dMo_late_10 : decode cMo_late 10 = .ok (.goto 32, 3) := by decide +kernel
theorem dMo_late_13 : decode cMo_late 13 = .ok (.iload_n 2, 1) := by decide +kernel
theorem dMo_late_14 : decode cMo_late 14 = .ok (.iconst 0, 1) := by decide +kernel
theorem dMo_late_15 : decode cMo_late 15 = .ok (.sipush 2000, 3) := by decide +kernel
theorem dMo_late_18 : decode cMo_late 18 = .ok (.invokestatic 131, 3) := by decide +kernel
theorem dMo_late_21 : decode cMo_late 21 = .ok (.ifCond .eq 7, 3) := by decide +kernel
theorem dMo_late_24 : decode cMo_late 24 = .ok (.iconst 2, 1) := by decide +kernel
theorem dMo_late_25 : decode cMo_late 25 = .ok (.goto 17, 3) := by decide +kernel
theorem dMo_late_28 : decode cMo_late 28 = .ok (.aload_n 0, 1) := by decide +kernel
theorem dMo_late_29 : decode cMo_late 29 = .ok (.getfield 39, 3) := by decide +kernel
theorem dMo_late_32 : decode cMo_late 32 = .ok (.iload_n 1, 1) := by decide +kernel
theorem dMo_late_33 : decode cMo_late 33 = .ok (.iaload, 1) := by decide +kernel
theorem dMo_late_34 : decode cMo_late 34 = .ok (.ifCond .eq 7, 3) := by decide +kernel
theorem dMo_late_37 : decode cMo_late 37 = .ok (.iconst 3, 1) := by decide +kernel
theorem dMo_late_38 : decode cMo_late 38 = .ok (.goto 4, 3) := by decide +kernel
theorem dMo_late_41 : decode cMo_late 41 = .ok (.iconst 0, 1) := by decide +kernel
theorem dMo_late_42 : decode cMo_late 42 = .ok (.putfield 7, 3) := by decide +kernel
theorem dMo_late_45 : decode cMo_late 45 = .ok (.aload_n 0, 1) := by decide +kernel
theorem dMo_late_46 : decode cMo_late 46 = .ok (.getfield 7, 3) := by decide +kernel
theorem dMo_late_49 : decode cMo_late 49 = .ok (.ifCond .eq 5, 3) := by decide +kernel
theorem dMo_late_52 : decode cMo_late 52 = .ok (.iconst 0, 1) := by decide +kernel
theorem dMo_late_53 : decode cMo_late 53 = .ok (.ireturn, 1) := by decide +kernel
theorem dMo_late_54 : decode cMo_late 54 = .ok (.aload_n 0, 1) := by decide +kernel
theorem dMo_late_55 : decode cMo_late 55 = .ok (.getfield 54, 3) := by decide +kernel
theorem dMo_late_58 : decode cMo_late 58 = .ok (.iload_n 1, 1) := by decide +kernel
theorem dMo_late_59 : decode cMo_late 59 = .ok (.iaload, 1) := by decide +kernel
theorem dMo_late_60 : decode cMo_late 60 = .ok (.ifCond .lt 7, 3) := by decide +kernel
theorem dMo_late_63 : decode cMo_late 63 = .ok (.iconst 1, 1) := by decide +kernel
theorem dMo_late_64 : decode cMo_late 64 = .ok (.goto 4, 3) := by decide +kernel
theorem dMo_late_67 : decode cMo_late 67 = .ok (.iconst 0, 1) := by decide +kernel
theorem dMo_late_68 : decode cMo_late 68 = .ok (.istore_n 3, 1) := by decide +kernel
theorem dMo_late_69 : decode cMo_late 69 = .ok (.aload_n 0, 1) := by decide +kernel
theorem dMo_late_70 : decode cMo_late 70 = .ok (.getfield 45, 3) := by decide +kernel
theorem dMo_late_73 : decode cMo_late 73 = .ok (.iload_n 1, 1) := by decide +kernel
theorem dMo_late_74 : decode cMo_late 74 = .ok (.iload_n 2, 1) := by decide +kernel
theorem dMo_late_75 : decode cMo_late 75 = .ok (.iastore, 1) := by decide +kernel
theorem dMo_late_76 : decode cMo_late 76 = .ok (.aload_n 0, 1) := by decide +kernel
theorem dMo_late_77 : decode cMo_late 77 = .ok (.getfield 57, 3) := by decide +kernel
theorem dMo_late_80 : decode cMo_late 80 = .ok (.iload_n 1, 1) := by decide +kernel
theorem dMo_late_81 : decode cMo_late 81 = .ok (.iaload, 1) := by decide +kernel
theorem dMo_late_82 : decode cMo_late 82 = .ok (.iload_n 2, 1) := by decide +kernel
theorem dMo_late_83 : decode cMo_late 83 = .ok (.if_icmp .ge 8, 3) := by decide +kernel
theorem dMo_late_86 : decode cMo_late 86 = .ok (.aload_n 0, 1) := by decide +kernel
theorem dMo_late_87 : decode cMo_late 87 = .ok (.iload_n 1, 1) := by decide +kernel
theorem dMo_late_88 : decode cMo_late 88 = .ok (.invokevirtual 135, 3) := by decide +kernel
theorem dMo_late_91 : decode cMo_late 91 = .ok (.iload_n 3, 1) := by decide +kernel
theorem dMo_late_92 : decode cMo_late 92 = .ok (.ireturn, 1) := by decide +kernel
abbrev cMo_cancel : ByteArray := prog_7_method_30_code
abbrev mMo_cancel : MD := (⟨"DockBookModel", "cancel", "(I)V"⟩, cMo_cancel, 2, none, [])
theorem dMo_cancel_0 : decode cMo_cancel 0 = .ok (.aload_n 0, 1) := by decide +kernel
theorem dMo_cancel_1 : decode cMo_cancel 1 = .ok (.aload_n 0, 1) := by decide +kernel
theorem dMo_cancel_2 : decode cMo_cancel 2 = .ok (.iload_n 1, 1) := by decide +kernel
theorem dMo_cancel_3 : decode cMo_cancel 3 = .ok (.invokevirtual 152, 3) := by decide +kernel
theorem dMo_cancel_6 : decode cMo_cancel 6 = .ok (.ifCond .eq 7, 3) := by decide +kernel
theorem dMo_cancel_9 : decode cMo_cancel 9 = .ok (.iconst 1, 1) := by decide +kernel
theorem dMo_cancel_10 : decode cMo_cancel 10 = .ok (.goto 17, 3) := by decide +kernel
theorem dMo_cancel_13 : decode cMo_cancel 13 = .ok (.aload_n 0, 1) := by decide +kernel
theorem dMo_cancel_14 : decode cMo_cancel 14 = .ok (.getfield 39, 3) := by decide +kernel
theorem dMo_cancel_17 : decode cMo_cancel 17 = .ok (.iload_n 1, 1) := by decide +kernel
theorem dMo_cancel_18 : decode cMo_cancel 18 = .ok (.iaload, 1) := by decide +kernel
theorem dMo_cancel_19 : decode cMo_cancel 19 = .ok (.ifCond .eq 7, 3) := by decide +kernel
theorem dMo_cancel_22 : decode cMo_cancel 22 = .ok (.iconst 2, 1) := by decide +kernel
theorem dMo_cancel_23 : decode cMo_cancel 23 = .ok (.goto 4, 3) := by decide +kernel
theorem dMo_cancel_26 : decode cMo_cancel 26 = .ok (.iconst 0, 1) := by decide +kernel
theorem dMo_cancel_27 : decode cMo_cancel 27 = .ok (.putfield 7, 3) := by decide +kernel
theorem dMo_cancel_30 : decode cMo_cancel 30 = .ok (.aload_n 0, 1) := by decide +kernel
theorem dMo_cancel_31 : decode cMo_cancel 31 = .ok (.getfield 7, 3) := by decide +kernel
theorem dMo_cancel_34 : decode cMo_cancel 34 = .ok (.ifCond .eq 4, 3) := by decide +kernel
theorem dMo_cancel_37 : decode cMo_cancel 37 = .ok (.return_, 1) := by decide +kernel
theorem dMo_cancel_38 : decode cMo_cancel 38 = .ok (.aload_n 0, 1) := by decide +kernel
theorem dMo_cancel_39 : decode cMo_cancel 39 = .ok (.getfield 39, 3) := by decide +kernel
theorem dMo_cancel_42 : decode cMo_cancel 42 = .ok (.iload_n 1, 1) := by decide +kernel
theorem dMo_cancel_43 : decode cMo_cancel 43 = .ok (.iconst 3, 1) := by decide +kernel
theorem dMo_cancel_44 : decode cMo_cancel 44 = .ok (.iastore, 1) := by decide +kernel
theorem dMo_cancel_45 : decode cMo_cancel 45 = .ok (.aload_n 0, 1) := by decide +kernel
theorem dMo_cancel_46 : decode cMo_cancel 46 = .ok (.iload_n 1, 1) := by decide +kernel
theorem dMo_cancel_47 : decode cMo_cancel 47 = .ok (.invokevirtual 135, 3) := by decide +kernel
theorem dMo_cancel_50 : decode cMo_cancel 50 = .ok (.return_, 1) := by decide +kernel
abbrev cMo_out : ByteArray := prog_7_method_31_code
abbrev mMo_out : MD := (⟨"DockBookModel", "out", "(IZ)I"⟩, cMo_out, 5, some (.int), [])
theorem dMo_out_0 : decode cMo_out 0 = .ok (.aload_n 0, 1) := by decide +kernel
theorem dMo_out_1 : decode cMo_out 1 = .ok (.aload_n 0, 1) := by decide +kernel
theorem dMo_out_2 : decode cMo_out 2 = .ok (.iload_n 1, 1) := by decide +kernel
theorem dMo_out_3 : decode cMo_out 3 = .ok (.invokevirtual 156, 3) := by decide +kernel
theorem dMo_out_6 : decode cMo_out 6 = .ok (.ifCond .eq 7, 3) := by decide +kernel
theorem dMo_out_9 : decode cMo_out 9 = .ok (.iconst 1, 1) := by decide +kernel
theorem dMo_out_10 : decode cMo_out 10 = .ok (.goto 18, 3) := by decide +kernel
theorem dMo_out_13 : decode cMo_out 13 = .ok (.aload_n 0, 1) := by decide +kernel
theorem dMo_out_14 : decode cMo_out 14 = .ok (.getfield 29, 3) := by decide +kernel
theorem dMo_out_17 : decode cMo_out 17 = .ok (.iload_n 1, 1) := by decide +kernel
theorem dMo_out_18 : decode cMo_out 18 = .ok (.baload, 1) := by decide +kernel
theorem dMo_out_19 : decode cMo_out 19 = .ok (.iload_n 2, 1) := by decide +kernel
theorem dMo_out_20 : decode cMo_out 20 = .ok (.if_icmp .ne 7, 3) := by decide +kernel
theorem dMo_out_23 : decode cMo_out 23 = .ok (.iconst 2, 1) := by decide +kernel
theorem dMo_out_24 : decode cMo_out 24 = .ok (.goto 4, 3) := by decide +kernel
theorem dMo_out_27 : decode cMo_out 27 = .ok (.iconst 0, 1) := by decide +kernel
theorem dMo_out_28 : decode cMo_out 28 = .ok (.putfield 7, 3) := by decide +kernel
theorem dMo_out_31 : decode cMo_out 31 = .ok (.aload_n 0, 1) := by decide +kernel
theorem dMo_out_32 : decode cMo_out 32 = .ok (.getfield 7, 3) := by decide +kernel
theorem dMo_out_35 : decode cMo_out 35 = .ok (.ifCond .eq 5, 3) := by decide +kernel
theorem dMo_out_38 : decode cMo_out 38 = .ok (.iconst 0, 1) := by decide +kernel
theorem dMo_out_39 : decode cMo_out 39 = .ok (.ireturn, 1) := by decide +kernel
theorem dMo_out_40 : decode cMo_out 40 = .ok (.aload_n 0, 1) := by decide +kernel
theorem dMo_out_41 : decode cMo_out 41 = .ok (.getfield 29, 3) := by decide +kernel
theorem dMo_out_44 : decode cMo_out 44 = .ok (.iload_n 1, 1) := by decide +kernel
theorem dMo_out_45 : decode cMo_out 45 = .ok (.iload_n 2, 1) := by decide +kernel
theorem dMo_out_46 : decode cMo_out 46 = .ok (.bastore, 1) := by decide +kernel
theorem dMo_out_47 : decode cMo_out 47 = .ok (.iconst 0, 1) := by decide +kernel
theorem dMo_out_48 : decode cMo_out 48 = .ok (.istore_n 3, 1) := by decide +kernel
theorem dMo_out_49 : decode cMo_out 49 = .ok (.iconst 0, 1) := by decide +kernel
theorem dMo_out_50 : decode cMo_out 50 = .ok (.istore 4, 2) := by decide +kernel
theorem dMo_out_52 : decode cMo_out 52 = .ok (.iload 4, 2) := by decide +kernel
theorem dMo_out_54 : decode cMo_out 54 = .ok (.aload_n 0, 1) := by decide +kernel
theorem dMo_out_55 : decode cMo_out 55 = .ok (.getfield 36, 3) := by decide +kernel
theorem dMo_out_58 : decode cMo_out 58 = .ok (.if_icmp .ge 43, 3) := by decide +kernel
theorem dMo_out_61 : decode cMo_out 61 = .ok (.iload_n 2, 1) := by decide +kernel
theorem dMo_out_62 : decode cMo_out 62 = .ok (.ifCond .eq 33, 3) := by decide +kernel
theorem dMo_out_65 : decode cMo_out 65 = .ok (.aload_n 0, 1) := by decide +kernel
theorem dMo_out_66 : decode cMo_out 66 = .ok (.getfield 39, 3) := by decide +kernel
theorem dMo_out_69 : decode cMo_out 69 = .ok (.iload 4, 2) := by decide +kernel
theorem dMo_out_71 : decode cMo_out 71 = .ok (.iaload, 1) := by decide +kernel
theorem dMo_out_72 : decode cMo_out 72 = .ok (.ifCond .ne 23, 3) := by decide +kernel
theorem dMo_out_75 : decode cMo_out 75 = .ok (.aload_n 0, 1) := by decide +kernel
theorem dMo_out_76 : decode cMo_out 76 = .ok (.getfield 54, 3) := by decide +kernel
theorem dMo_out_79 : decode cMo_out 79 = .ok (.iload 4, 2) := by decide +kernel
theorem dMo_out_81 : decode cMo_out 81 = .ok (.iaload, 1) := by decide +kernel
theorem dMo_out_82 : decode cMo_out 82 = .ok (.iload_n 1, 1) := by decide +kernel
theorem dMo_out_83 : decode cMo_out 83 = .ok (.if_icmp .ne 12, 3) := by decide +kernel
theorem dMo_out_86 : decode cMo_out 86 = .ok (.aload_n 0, 1) := by decide +kernel
theorem dMo_out_87 : decode cMo_out 87 = .ok (.iload 4, 2) := by decide +kernel
theorem dMo_out_89 : decode cMo_out 89 = .ok (.invokevirtual 135, 3) := by decide +kernel
theorem dMo_out_92 : decode cMo_out 92 = .ok (.iinc 3 1, 3) := by decide +kernel
theorem dMo_out_95 : decode cMo_out 95 = .ok (.iinc 4 1, 3) := by decide +kernel
theorem dMo_out_98 : decode cMo_out 98 = .ok (.goto (-46), 3) := by decide +kernel
theorem dMo_out_101 : decode cMo_out 101 = .ok (.iload_n 3, 1) := by decide +kernel
theorem dMo_out_102 : decode cMo_out 102 = .ok (.ireturn, 1) := by decide +kernel
abbrev cMo_pass : ByteArray := prog_7_method_32_code
abbrev mMo_pass : MD := (⟨"DockBookModel", "pass", "(I)V"⟩, cMo_pass, 2, none, [])
theorem dMo_pass_0 : decode cMo_pass 0 = .ok (.aload_n 0, 1) := by decide +kernel
theorem dMo_pass_1 : decode cMo_pass 1 = .ok (.iload_n 1, 1) := by decide +kernel
theorem dMo_pass_2 : decode cMo_pass 2 = .ok (.aload_n 0, 1) := by decide +kernel
theorem dMo_pass_3 : decode cMo_pass 3 = .ok (.getfield 13, 3) := by decide +kernel
theorem dMo_pass_6 : decode cMo_pass 6 = .ok (.if_icmp .lt 10, 3) := by decide +kernel
theorem dMo_pass_9 : decode cMo_pass 9 = .ok (.iload_n 1, 1) := by decide +kernel
theorem dMo_pass_10 : decode cMo_pass 10 = .ok (.sipush 2000, 3) := by decide +kernel
theorem dMo_pass_13 : decode cMo_pass 13 = .ok (.if_icmp .le 7, 3) := by decide +kernel
theorem dMo_pass_16 : decode cMo_pass 16 = .ok (.iconst 1, 1) := by decide +kernel
theorem dMo_pass_17 : decode cMo_pass 17 = .ok (.goto 4, 3) := by decide +kernel
theorem dMo_pass_20 : decode cMo_pass 20 = .ok (.iconst 0, 1) := by decide +kernel
theorem dMo_pass_21 : decode cMo_pass 21 = .ok (.putfield 7, 3) := by decide +kernel
theorem dMo_pass_24 : decode cMo_pass 24 = .ok (.aload_n 0, 1) := by decide +kernel
theorem dMo_pass_25 : decode cMo_pass 25 = .ok (.getfield 7, 3) := by decide +kernel
theorem dMo_pass_28 : decode cMo_pass 28 = .ok (.ifCond .ne 8, 3) := by decide +kernel
theorem dMo_pass_31 : decode cMo_pass 31 = .ok (.aload_n 0, 1) := by decide +kernel
theorem dMo_pass_32 : decode cMo_pass 32 = .ok (.iload_n 1, 1) := by decide +kernel
theorem dMo_pass_33 : decode cMo_pass 33 = .ok (.putfield 13, 3) := by decide +kernel
theorem dMo_pass_36 : decode cMo_pass 36 = .ok (.return_, 1) := by decide +kernel
abbrev cMo_order : ByteArray := prog_7_method_33_code
abbrev mMo_order : MD := (⟨"DockBookModel", "order", "(II)I"⟩, cMo_order, 6, some (.int), [])
theorem dMo_order_0 : decode cMo_order 0 = .ok (.aload_n 0, 1) := by decide +kernel
theorem dMo_order_1 : decode cMo_order 1 = .ok (.aload_n 0, 1) := by decide +kernel
theorem dMo_order_2 : decode cMo_order 2 = .ok (.iload_n 1, 1) := by decide +kernel
theorem dMo_order_3 : decode cMo_order 3 = .ok (.invokevirtual 156, 3) := by decide +kernel
theorem dMo_order_6 : decode cMo_order 6 = .ok (.ifCond .ne 7, 3) := by decide +kernel
theorem dMo_order_9 : decode cMo_order 9 = .ok (.iload_n 2, 1) := by decide +kernel
theorem dMo_order_10 : decode cMo_order 10 = .ok (.ifCond .ge 7, 3) := by decide +kernel
theorem dMo_order_13 : decode cMo_order 13 = .ok (.iconst 1, 1) := by decide +kernel
theorem dMo_order_14 : decode cMo_order 14 = .ok (.goto 4, 3) := by decide +kernel
theorem dMo_order_17 : decode cMo_order 17 = .ok (.iconst 0, 1) := by decide +kernel
theorem dMo_order_18 : decode cMo_order 18 = .ok (.putfield 7, 3) := by decide +kernel
theorem dMo_order_21 : decode cMo_order 21 = .ok (.aload_n 0, 1) := by decide +kernel
theorem dMo_order_22 : decode cMo_order 22 = .ok (.getfield 7, 3) := by decide +kernel
theorem dMo_order_25 : decode cMo_order 25 = .ok (.ifCond .eq 5, 3) := by decide +kernel
theorem dMo_order_28 : decode cMo_order 28 = .ok (.iconst 0, 1) := by decide +kernel
theorem dMo_order_29 : decode cMo_order 29 = .ok (.ireturn, 1) := by decide +kernel
theorem dMo_order_30 : decode cMo_order 30 = .ok (.iconst 0, 1) := by decide +kernel
theorem dMo_order_31 : decode cMo_order 31 = .ok (.istore_n 3, 1) := by decide +kernel
theorem dMo_order_32 : decode cMo_order 32 = .ok (.iload_n 3, 1) := by decide +kernel
theorem dMo_order_33 : decode cMo_order 33 = .ok (.aload_n 0, 1) := by decide +kernel
theorem dMo_order_34 : decode cMo_order 34 = .ok (.getfield 36, 3) := by decide +kernel
theorem dMo_order_37 : decode cMo_order 37 = .ok (.if_icmp .ge 126, 3) := by decide +kernel
theorem dMo_order_40 : decode cMo_order 40 = .ok (.aload_n 0, 1) := by decide +kernel
theorem dMo_order_41 : decode cMo_order 41 = .ok (.getfield 39, 3) := by decide +kernel
theorem dMo_order_44 : decode cMo_order 44 = .ok (.iload_n 3, 1) := by decide +kernel
theorem dMo_order_45 : decode cMo_order 45 = .ok (.iaload, 1) := by decide +kernel
theorem dMo_order_46 : decode cMo_order 46 = .ok (.ifCond .ne 111, 3) := by decide +kernel
theorem dMo_order_49 : decode cMo_order 49 = .ok (.aload_n 0, 1) := by decide +kernel
theorem dMo_order_50 : decode cMo_order 50 = .ok (.getfield 54, 3) := by decide +kernel
theorem dMo_order_53 : decode cMo_order 53 = .ok (.iload_n 3, 1) := by decide +kernel
theorem dMo_order_54 : decode cMo_order 54 = .ok (.iaload, 1) := by decide +kernel
theorem dMo_order_55 : decode cMo_order 55 = .ok (.iload_n 1, 1) := by decide +kernel
theorem dMo_order_56 : decode cMo_order 56 = .ok (.if_icmp .ne 101, 3) := by decide +kernel
theorem dMo_order_59 : decode cMo_order 59 = .ok (.iconst 0, 1) := by decide +kernel
theorem dMo_order_60 : decode cMo_order 60 = .ok (.istore 4, 2) := by decide +kernel
theorem dMo_order_62 : decode cMo_order 62 = .ok (.iconst 0, 1) := by decide +kernel
theorem dMo_order_63 : decode cMo_order 63 = .ok (.istore 5, 2) := by decide +kernel
theorem dMo_order_65 : decode cMo_order 65 = .ok (.iload 5, 2) := by decide +kernel
theorem dMo_order_67 : decode cMo_order 67 = .ok (.aload_n 0, 1) := by decide +kernel
theorem dMo_order_68 : decode cMo_order 68 = .ok (.getfield 36, 3) := by decide +kernel
theorem dMo_order_71 : decode cMo_order 71 = .ok (.if_icmp .ge 78, 3) := by decide +kernel
theorem dMo_order_74 : decode cMo_order 74 = .ok (.iload 4, 2) := by decide +kernel
theorem dMo_order_76 : decode cMo_order 76 = .ok (.aload_n 0, 1) := by decide +kernel
theorem dMo_order_77 : decode cMo_order 77 = .ok (.getfield 39, 3) := by decide +kernel
theorem dMo_order_80 : decode cMo_order 80 = .ok (.iload 5, 2) := by decide +kernel
theorem dMo_order_82 : decode cMo_order 82 = .ok (.iaload, 1) := by decide +kernel
theorem dMo_order_83 : decode cMo_order 83 = .ok (.ifCond .ne 56, 3) := by decide +kernel
theorem dMo_order_86 : decode cMo_order 86 = .ok (.aload_n 0, 1) := by decide +kernel
theorem dMo_order_87 : decode cMo_order 87 = .ok (.getfield 54, 3) := by decide +kernel
theorem dMo_order_90 : decode cMo_order 90 = .ok (.iload 5, 2) := by decide +kernel
theorem dMo_order_92 : decode cMo_order 92 = .ok (.iaload, 1) := by decide +kernel
theorem dMo_order_93 : decode cMo_order 93 = .ok (.iload_n 1, 1) := by decide +kernel
theorem dMo_order_94 : decode cMo_order 94 = .ok (.if_icmp .ne 45, 3) := by decide +kernel
theorem dMo_order_97 : decode cMo_order 97 = .ok (.aload_n 0, 1) := by decide +kernel
theorem dMo_order_98 : decode cMo_order 98 = .ok (.getfield 57, 3) := by decide +kernel
theorem dMo_order_101 : decode cMo_order 101 = .ok (.iload 5, 2) := by decide +kernel
theorem dMo_order_103 : decode cMo_order 103 = .ok (.iaload, 1) := by decide +kernel
theorem dMo_order_104 : decode cMo_order 104 = .ok (.aload_n 0, 1) := by decide +kernel
theorem dMo_order_105 : decode cMo_order 105 = .ok (.getfield 57, 3) := by decide +kernel
theorem dMo_order_108 : decode cMo_order 108 = .ok (.iload_n 3, 1) := by decide +kernel
theorem dMo_order_109 : decode cMo_order 109 = .ok (.iaload, 1) := by decide +kernel
theorem dMo_order_110 : decode cMo_order 110 = .ok (.if_icmp .lt 25, 3) := by decide +kernel
theorem dMo_order_113 : decode cMo_order 113 = .ok (.aload_n 0, 1) := by decide +kernel
theorem dMo_order_114 : decode cMo_order 114 = .ok (.getfield 57, 3) := by decide +kernel
theorem dMo_order_117 : decode cMo_order 117 = .ok (.iload 5, 2) := by decide +kernel
theorem dMo_order_119 : decode cMo_order 119 = .ok (.iaload, 1) := by decide +kernel
theorem dMo_order_120 : decode cMo_order 120 = .ok (.aload_n 0, 1) := by decide +kernel
theorem dMo_order_121 : decode cMo_order 121 = .ok (.getfield 57, 3) := by decide +kernel
theorem dMo_order_124 : decode cMo_order 124 = .ok (.iload_n 3, 1) := by decide +kernel
theorem dMo_order_125 : decode cMo_order 125 = .ok (.iaload, 1) := by decide +kernel
theorem dMo_order_126 : decode cMo_order 126 = .ok (.if_icmp .ne 13, 3) := by decide +kernel
theorem dMo_order_129 : decode cMo_order 129 = .ok (.iload 5, 2) := by decide +kernel
theorem dMo_order_131 : decode cMo_order 131 = .ok (.iload_n 3, 1) := by decide +kernel
theorem dMo_order_132 : decode cMo_order 132 = .ok (.if_icmp .ge 7, 3) := by decide +kernel
theorem dMo_order_135 : decode cMo_order 135 = .ok (.iconst 1, 1) := by decide +kernel
theorem dMo_order_136 : decode cMo_order 136 = .ok (.goto 4, 3) := by decide +kernel
theorem dMo_order_139 : decode cMo_order 139 = .ok (.iconst 0, 1) := by decide +kernel
theorem dMo_order_140 : decode cMo_order 140 = .ok (.iadd, 1) := by decide +kernel
theorem dMo_order_141 : decode cMo_order 141 = .ok (.istore 4, 2) := by decide +kernel
theorem dMo_order_143 : decode cMo_order 143 = .ok (.iinc 5 1, 3) := by decide +kernel
theorem dMo_order_146 : decode cMo_order 146 = .ok (.goto (-81), 3) := by decide +kernel
theorem dMo_order_149 : decode cMo_order 149 = .ok (.iload 4, 2) := by decide +kernel
theorem dMo_order_151 : decode cMo_order 151 = .ok (.iload_n 2, 1) := by decide +kernel
theorem dMo_order_152 : decode cMo_order 152 = .ok (.if_icmp .ne 5, 3) := by decide +kernel
theorem dMo_order_155 : decode cMo_order 155 = .ok (.iload_n 3, 1) := by decide +kernel
theorem dMo_order_156 : decode cMo_order 156 = .ok (.ireturn, 1) := by decide +kernel
theorem dMo_order_157 : decode cMo_order 157 = .ok (.iinc 3 1, 3) := by decide +kernel
theorem dMo_order_160 : decode cMo_order 160 = .ok (.goto (-128), 3) := by decide +kernel
theorem dMo_order_163 : decode cMo_order 163 = .ok (.aload_n 0, 1) := by decide +kernel
theorem dMo_order_164 : decode cMo_order 164 = .ok (.iconst 1, 1) := by decide +kernel
theorem dMo_order_165 : decode cMo_order 165 = .ok (.putfield 7, 3) := by decide +kernel
theorem dMo_order_168 : decode cMo_order 168 = .ok (.iconst 0, 1) := by decide +kernel
theorem dMo_order_169 : decode cMo_order 169 = .ok (.ireturn, 1) := by decide +kernel
abbrev cMo_told : ByteArray := prog_7_method_34_code
abbrev mMo_told : MD := (⟨"DockBookModel", "told", "(II)I"⟩, cMo_told, 3, some (.int), [])
theorem dMo_told_0 : decode cMo_told 0 = .ok (.aload_n 0, 1) := by decide +kernel
theorem dMo_told_1 : decode cMo_told 1 = .ok (.aload_n 0, 1) := by decide +kernel
theorem dMo_told_2 : decode cMo_told 2 = .ok (.iload_n 1, 1) := by decide +kernel
theorem dMo_told_3 : decode cMo_told 3 = .ok (.invokevirtual 152, 3) := by decide +kernel
theorem dMo_told_6 : decode cMo_told 6 = .ok (.ifCond .eq 7, 3) := by decide +kernel
theorem dMo_told_9 : decode cMo_told 9 = .ok (.iconst 1, 1) := by decide +kernel
theorem dMo_told_10 : decode cMo_told 10 = .ok (.goto 18, 3) := by decide +kernel
theorem dMo_told_13 : decode cMo_told 13 = .ok (.iload_n 2, 1) := by decide +kernel
theorem dMo_told_14 : decode cMo_told 14 = .ok (.iconst 0, 1) := by decide +kernel
theorem dMo_told_15 : decode cMo_told 15 = .ok (.bipush 7, 2) := by decide +kernel
theorem dMo_told_17 : decode cMo_told 17 = .ok (.invokestatic 131, 3) := by decide +kernel
theorem dMo_told_20 : decode cMo_told 20 = .ok (.ifCond .eq 7, 3) := by decide +kernel
theorem dMo_told_23 : decode cMo_told 23 = .ok (.iconst 2, 1) := by decide +kernel
theorem dMo_told_24 : decode cMo_told 24 = .ok (.goto 4, 3) := by decide +kernel
theorem dMo_told_27 : decode cMo_told 27 = .ok (.iconst 0, 1) := by decide +kernel
theorem dMo_told_28 : decode cMo_told 28 = .ok (.putfield 7, 3) := by decide +kernel
theorem dMo_told_31 : decode cMo_told 31 = .ok (.aload_n 0, 1) := by decide +kernel
theorem dMo_told_32 : decode cMo_told 32 = .ok (.getfield 7, 3) := by decide +kernel
theorem dMo_told_35 : decode cMo_told 35 = .ok (.ifCond .eq 5, 3) := by decide +kernel
theorem dMo_told_38 : decode cMo_told 38 = .ok (.iconst 0, 1) := by decide +kernel
theorem dMo_told_39 : decode cMo_told 39 = .ok (.ireturn, 1) := by decide +kernel
theorem dMo_told_40 : decode cMo_told 40 = .ok (.iload_n 2, 1) := by decide +kernel
theorem dMo_told_41 : decode cMo_told 41 = .ok (.tableswitch 92 0 6 #[43, 50, 57, 64, 71, 78, 85], 43) := by decide +kernel
theorem dMo_told_84 : decode cMo_told 84 = .ok (.aload_n 0, 1) := by decide +kernel
theorem dMo_told_85 : decode cMo_told 85 = .ok (.getfield 39, 3) := by decide +kernel
theorem dMo_told_88 : decode cMo_told 88 = .ok (.iload_n 1, 1) := by decide +kernel
theorem dMo_told_89 : decode cMo_told 89 = .ok (.iaload, 1) := by decide +kernel
theorem dMo_told_90 : decode cMo_told 90 = .ok (.ireturn, 1) := by decide +kernel
theorem dMo_told_91 : decode cMo_told 91 = .ok (.aload_n 0, 1) := by decide +kernel
theorem dMo_told_92 : decode cMo_told 92 = .ok (.getfield 54, 3) := by decide +kernel
theorem dMo_told_95 : decode cMo_told 95 = .ok (.iload_n 1, 1) := by decide +kernel
theorem dMo_told_96 : decode cMo_told 96 = .ok (.iaload, 1) := by decide +kernel
theorem dMo_told_97 : decode cMo_told 97 = .ok (.ireturn, 1) := by decide +kernel
theorem dMo_told_98 : decode cMo_told 98 = .ok (.aload_n 0, 1) := by decide +kernel
theorem dMo_told_99 : decode cMo_told 99 = .ok (.getfield 57, 3) := by decide +kernel
theorem dMo_told_102 : decode cMo_told 102 = .ok (.iload_n 1, 1) := by decide +kernel
theorem dMo_told_103 : decode cMo_told 103 = .ok (.iaload, 1) := by decide +kernel
theorem dMo_told_104 : decode cMo_told 104 = .ok (.ireturn, 1) := by decide +kernel
theorem dMo_told_105 : decode cMo_told 105 = .ok (.aload_n 0, 1) := by decide +kernel
theorem dMo_told_106 : decode cMo_told 106 = .ok (.getfield 45, 3) := by decide +kernel
theorem dMo_told_109 : decode cMo_told 109 = .ok (.iload_n 1, 1) := by decide +kernel
theorem dMo_told_110 : decode cMo_told 110 = .ok (.iaload, 1) := by decide +kernel
theorem dMo_told_111 : decode cMo_told 111 = .ok (.ireturn, 1) := by decide +kernel
theorem dMo_told_112 : decode cMo_told 112 = .ok (.aload_n 0, 1) := by decide +kernel
theorem dMo_told_113 : decode cMo_told 113 = .ok (.getfield 48, 3) := by decide +kernel
theorem dMo_told_116 : decode cMo_told 116 = .ok (.iload_n 1, 1) := by decide +kernel
theorem dMo_told_117 : decode cMo_told 117 = .ok (.iaload, 1) := by decide +kernel
theorem dMo_told_118 : decode cMo_told 118 = .ok (.ireturn, 1) := by decide +kernel
theorem dMo_told_119 : decode cMo_told 119 = .ok (.aload_n 0, 1) := by decide +kernel
theorem dMo_told_120 : decode cMo_told 120 = .ok (.getfield 51, 3) := by decide +kernel
theorem dMo_told_123 : decode cMo_told 123 = .ok (.iload_n 1, 1) := by decide +kernel
theorem dMo_told_124 : decode cMo_told 124 = .ok (.iaload, 1) := by decide +kernel
theorem dMo_told_125 : decode cMo_told 125 = .ok (.ireturn, 1) := by decide +kernel
theorem dMo_told_126 : decode cMo_told 126 = .ok (.aload_n 0, 1) := by decide +kernel
theorem dMo_told_127 : decode cMo_told 127 = .ok (.getfield 42, 3) := by decide +kernel
theorem dMo_told_130 : decode cMo_told 130 = .ok (.iload_n 1, 1) := by decide +kernel
theorem dMo_told_131 : decode cMo_told 131 = .ok (.iaload, 1) := by decide +kernel
theorem dMo_told_132 : decode cMo_told 132 = .ok (.ireturn, 1) := by decide +kernel
theorem dMo_told_133 : decode cMo_told 133 = .ok (.aload_n 0, 1) := by decide +kernel
theorem dMo_told_134 : decode cMo_told 134 = .ok (.getfield 60, 3) := by decide +kernel
theorem dMo_told_137 : decode cMo_told 137 = .ok (.iload_n 1, 1) := by decide +kernel
theorem dMo_told_138 : decode cMo_told 138 = .ok (.iaload, 1) := by decide +kernel
theorem dMo_told_139 : decode cMo_told 139 = .ok (.ireturn, 1) := by decide +kernel
abbrev cMo_known : ByteArray := prog_7_method_35_code
abbrev mMo_known : MD := (⟨"DockBookModel", "known", "(II)I"⟩, cMo_known, 5, some (.int), [])
theorem dMo_known_0 : decode cMo_known 0 = .ok (.aload_n 0, 1) := by decide +kernel
theorem dMo_known_1 : decode cMo_known 1 = .ok (.aload_n 0, 1) := by decide +kernel
theorem dMo_known_2 : decode cMo_known 2 = .ok (.iload_n 1, 1) := by decide +kernel
theorem dMo_known_3 : decode cMo_known 3 = .ok (.invokevirtual 156, 3) := by decide +kernel
theorem dMo_known_6 : decode cMo_known 6 = .ok (.ifCond .eq 7, 3) := by decide +kernel
theorem dMo_known_9 : decode cMo_known 9 = .ok (.iconst 1, 1) := by decide +kernel
theorem dMo_known_10 : decode cMo_known 10 = .ok (.goto 17, 3) := by decide +kernel
theorem dMo_known_13 : decode cMo_known 13 = .ok (.iload_n 2, 1) := by decide +kernel
theorem dMo_known_14 : decode cMo_known 14 = .ok (.iconst 0, 1) := by decide +kernel
theorem dMo_known_15 : decode cMo_known 15 = .ok (.iconst 4, 1) := by decide +kernel
theorem dMo_known_16 : decode cMo_known 16 = .ok (.invokestatic 131, 3) := by decide +kernel
theorem dMo_known_19 : decode cMo_known 19 = .ok (.ifCond .eq 7, 3) := by decide +kernel
theorem dMo_known_22 : decode cMo_known 22 = .ok (.iconst 2, 1) := by decide +kernel
theorem dMo_known_23 : decode cMo_known 23 = .ok (.goto 4, 3) := by decide +kernel
theorem dMo_known_26 : decode cMo_known 26 = .ok (.iconst 0, 1) := by decide +kernel
theorem dMo_known_27 : decode cMo_known 27 = .ok (.putfield 7, 3) := by decide +kernel
theorem dMo_known_30 : decode cMo_known 30 = .ok (.aload_n 0, 1) := by decide +kernel
theorem dMo_known_31 : decode cMo_known 31 = .ok (.getfield 7, 3) := by decide +kernel
theorem dMo_known_34 : decode cMo_known 34 = .ok (.ifCond .eq 5, 3) := by decide +kernel
theorem dMo_known_37 : decode cMo_known 37 = .ok (.iconst 0, 1) := by decide +kernel
theorem dMo_known_38 : decode cMo_known 38 = .ok (.ireturn, 1) := by decide +kernel
theorem dMo_known_39 : decode cMo_known 39 = .ok (.iconst 0, 1) := by decide +kernel
theorem dMo_known_40 : decode cMo_known 40 = .ok (.istore_n 3, 1) := by decide +kernel
theorem dMo_known_41 : decode cMo_known 41 = .ok (.iconst 0, 1) := by decide +kernel
theorem dMo_known_42 : decode cMo_known 42 = .ok (.istore 4, 2) := by decide +kernel
theorem dMo_known_44 : decode cMo_known 44 = .ok (.iload 4, 2) := by decide +kernel
theorem dMo_known_46 : decode cMo_known 46 = .ok (.aload_n 0, 1) := by decide +kernel
theorem dMo_known_47 : decode cMo_known 47 = .ok (.getfield 36, 3) := by decide +kernel
theorem dMo_known_50 : decode cMo_known 50 = .ok (.if_icmp .ge 38, 3) := by decide +kernel
theorem dMo_known_53 : decode cMo_known 53 = .ok (.iload_n 3, 1) := by decide +kernel
theorem dMo_known_54 : decode cMo_known 54 = .ok (.aload_n 0, 1) := by decide +kernel
theorem dMo_known_55 : decode cMo_known 55 = .ok (.getfield 39, 3) := by decide +kernel
theorem dMo_known_58 : decode cMo_known 58 = .ok (.iload 4, 2) := by decide +kernel
theorem dMo_known_60 : decode cMo_known 60 = .ok (.iaload, 1) := by decide +kernel
theorem dMo_known_61 : decode cMo_known 61 = .ok (.ifCond .ne 18, 3) := by decide +kernel
theorem dMo_known_64 : decode cMo_known 64 = .ok (.aload_n 0, 1) := by decide +kernel
theorem dMo_known_65 : decode cMo_known 65 = .ok (.getfield 54, 3) := by decide +kernel
theorem dMo_known_68 : decode cMo_known 68 = .ok (.iload 4, 2) := by decide +kernel
theorem dMo_known_70 : decode cMo_known 70 = .ok (.iaload, 1) := by decide +kernel
theorem dMo_known_71 : decode cMo_known 71 = .ok (.iload_n 1, 1) := by decide +kernel
theorem dMo_known_72 : decode cMo_known 72 = .ok (.if_icmp .ne 7, 3) := by decide +kernel
theorem dMo_known_75 : decode cMo_known 75 = .ok (.iconst 1, 1) := by decide +kernel
theorem dMo_known_76 : decode cMo_known 76 = .ok (.goto 4, 3) := by decide +kernel
theorem dMo_known_79 : decode cMo_known 79 = .ok (.iconst 0, 1) := by decide +kernel
theorem dMo_known_80 : decode cMo_known 80 = .ok (.iadd, 1) := by decide +kernel
theorem dMo_known_81 : decode cMo_known 81 = .ok (.istore_n 3, 1) := by decide +kernel
theorem dMo_known_82 : decode cMo_known 82 = .ok (.iinc 4 1, 3) := by decide +kernel
theorem dMo_known_85 : decode cMo_known 85 = .ok (.goto (-41), 3) := by decide +kernel
theorem dMo_known_88 : decode cMo_known 88 = .ok (.iload_n 2, 1) := by decide +kernel
theorem dMo_known_89 : decode cMo_known 89 = .ok (.ifCond .ne 11, 3) := by decide +kernel
theorem dMo_known_92 : decode cMo_known 92 = .ok (.aload_n 0, 1) := by decide +kernel
theorem dMo_known_93 : decode cMo_known 93 = .ok (.iload_n 1, 1) := by decide +kernel
theorem dMo_known_94 : decode cMo_known 94 = .ok (.invokevirtual 103, 3) := by decide +kernel
theorem dMo_known_97 : decode cMo_known 97 = .ok (.goto 54, 3) := by decide +kernel
theorem dMo_known_100 : decode cMo_known 100 = .ok (.iload_n 2, 1) := by decide +kernel
theorem dMo_known_101 : decode cMo_known 101 = .ok (.iconst 1, 1) := by decide +kernel
theorem dMo_known_102 : decode cMo_known 102 = .ok (.if_icmp .ne 20, 3) := by decide +kernel
theorem dMo_known_105 : decode cMo_known 105 = .ok (.aload_n 0, 1) := by decide +kernel
theorem dMo_known_106 : decode cMo_known 106 = .ok (.getfield 29, 3) := by decide +kernel
theorem dMo_known_109 : decode cMo_known 109 = .ok (.iload_n 1, 1) := by decide +kernel
theorem dMo_known_110 : decode cMo_known 110 = .ok (.baload, 1) := by decide +kernel
theorem dMo_known_111 : decode cMo_known 111 = .ok (.ifCond .eq 7, 3) := by decide +kernel
theorem dMo_known_114 : decode cMo_known 114 = .ok (.iconst 1, 1) := by decide +kernel
theorem dMo_known_115 : decode cMo_known 115 = .ok (.goto 36, 3) := by decide +kernel
theorem dMo_known_118 : decode cMo_known 118 = .ok (.iconst 0, 1) := by decide +kernel
theorem dMo_known_119 : decode cMo_known 119 = .ok (.goto 32, 3) := by decide +kernel
theorem dMo_known_122 : decode cMo_known 122 = .ok (.iload_n 2, 1) := by decide +kernel
theorem dMo_known_123 : decode cMo_known 123 = .ok (.iconst 2, 1) := by decide +kernel
theorem dMo_known_124 : decode cMo_known 124 = .ok (.if_icmp .ne 7, 3) := by decide +kernel
theorem dMo_known_127 : decode cMo_known 127 = .ok (.iload_n 3, 1) := by decide +kernel
theorem dMo_known_128 : decode cMo_known 128 = .ok (.goto 23, 3) := by decide +kernel
theorem dMo_known_131 : decode cMo_known 131 = .ok (.iload_n 2, 1) := by decide +kernel
theorem dMo_known_132 : decode cMo_known 132 = .ok (.iconst 3, 1) := by decide +kernel
theorem dMo_known_133 : decode cMo_known 133 = .ok (.if_icmp .ne 12, 3) := by decide +kernel
theorem dMo_known_136 : decode cMo_known 136 = .ok (.aload_n 0, 1) := by decide +kernel
theorem dMo_known_137 : decode cMo_known 137 = .ok (.getfield 19, 3) := by decide +kernel
theorem dMo_known_140 : decode cMo_known 140 = .ok (.iload_n 1, 1) := by decide +kernel
theorem dMo_known_141 : decode cMo_known 141 = .ok (.iaload, 1) := by decide +kernel
theorem dMo_known_142 : decode cMo_known 142 = .ok (.goto 9, 3) := by decide +kernel
theorem dMo_known_145 : decode cMo_known 145 = .ok (.aload_n 0, 1) := by decide +kernel
theorem dMo_known_146 : decode cMo_known 146 = .ok (.getfield 33, 3) := by decide +kernel
theorem dMo_known_149 : decode cMo_known 149 = .ok (.iload_n 1, 1) := by decide +kernel
theorem dMo_known_150 : decode cMo_known 150 = .ok (.iaload, 1) := by decide +kernel
theorem dMo_known_151 : decode cMo_known 151 = .ok (.ireturn, 1) := by decide +kernel
abbrev cMo_count : ByteArray := prog_7_method_36_code
abbrev mMo_count : MD := (⟨"DockBookModel", "count", "(I)I"⟩, cMo_count, 4, some (.int), [])
theorem dMo_count_0 : decode cMo_count 0 = .ok (.aload_n 0, 1) := by decide +kernel
theorem dMo_count_1 : decode cMo_count 1 = .ok (.iconst 0, 1) := by decide +kernel
theorem dMo_count_2 : decode cMo_count 2 = .ok (.putfield 7, 3) := by decide +kernel
theorem dMo_count_5 : decode cMo_count 5 = .ok (.aload_n 0, 1) := by decide +kernel
theorem dMo_count_6 : decode cMo_count 6 = .ok (.getfield 100, 3) := by decide +kernel
theorem dMo_count_9 : decode cMo_count 9 = .ok (.astore_n 2, 1) := by decide +kernel
theorem dMo_count_10 : decode cMo_count 10 = .ok (.iconst 0, 1) := by decide +kernel
theorem dMo_count_11 : decode cMo_count 11 = .ok (.istore_n 3, 1) := by decide +kernel
theorem dMo_count_12 : decode cMo_count 12 = .ok (.iload_n 3, 1) := by decide +kernel
theorem dMo_count_13 : decode cMo_count 13 = .ok (.iconst 4, 1) := by decide +kernel
theorem dMo_count_14 : decode cMo_count 14 = .ok (.if_icmp .ge 13, 3) := by decide +kernel
theorem dMo_count_17 : decode cMo_count 17 = .ok (.aload_n 2, 1) := by decide +kernel
theorem dMo_count_18 : decode cMo_count 18 = .ok (.iload_n 3, 1) := by decide +kernel
theorem dMo_count_19 : decode cMo_count 19 = .ok (.iconst 0, 1) := by decide +kernel
theorem dMo_count_20 : decode cMo_count 20 = .ok (.iastore, 1) := by decide +kernel
theorem dMo_count_21 : decode cMo_count 21 = .ok (.iinc 3 1, 3) := by decide +kernel
theorem dMo_count_24 : decode cMo_count 24 = .ok (.goto (-12), 3) := by decide +kernel
theorem dMo_count_27 : decode cMo_count 27 = .ok (.iconst 0, 1) := by decide +kernel
theorem dMo_count_28 : decode cMo_count 28 = .ok (.istore_n 3, 1) := by decide +kernel
theorem dMo_count_29 : decode cMo_count 29 = .ok (.iload_n 3, 1) := by decide +kernel
theorem dMo_count_30 : decode cMo_count 30 = .ok (.aload_n 0, 1) := by decide +kernel
theorem dMo_count_31 : decode cMo_count 31 = .ok (.getfield 36, 3) := by decide +kernel
theorem dMo_count_34 : decode cMo_count 34 = .ok (.if_icmp .ge 27, 3) := by decide +kernel
theorem dMo_count_37 : decode cMo_count 37 = .ok (.aload_n 2, 1) := by decide +kernel
theorem dMo_count_38 : decode cMo_count 38 = .ok (.aload_n 0, 1) := by decide +kernel
theorem dMo_count_39 : decode cMo_count 39 = .ok (.getfield 39, 3) := by decide +kernel
theorem dMo_count_42 : decode cMo_count 42 = .ok (.iload_n 3, 1) := by decide +kernel
theorem dMo_count_43 : decode cMo_count 43 = .ok (.iaload, 1) := by decide +kernel
theorem dMo_count_44 : decode cMo_count 44 = .ok (.aload_n 2, 1) := by decide +kernel
theorem dMo_count_45 : decode cMo_count 45 = .ok (.aload_n 0, 1) := by decide +kernel
theorem dMo_count_46 : decode cMo_count 46 = .ok (.getfield 39, 3) := by decide +kernel
theorem dMo_count_49 : decode cMo_count 49 = .ok (.iload_n 3, 1) := by decide +kernel
theorem dMo_count_50 : decode cMo_count 50 = .ok (.iaload, 1) := by decide +kernel
theorem dMo_count_51 : decode cMo_count 51 = .ok (.iaload, 1) := by decide +kernel
theorem dMo_count_52 : decode cMo_count 52 = .ok (.iconst 1, 1) := by decide +kernel
theorem dMo_count_53 : decode cMo_count 53 = .ok (.iadd, 1) := by decide +kernel
theorem dMo_count_54 : decode cMo_count 54 = .ok (.iastore, 1) := by decide +kernel
theorem dMo_count_55 : decode cMo_count 55 = .ok (.iinc 3 1, 3) := by decide +kernel
theorem dMo_count_58 : decode cMo_count 58 = .ok (.goto (-29), 3) := by decide +kernel
theorem dMo_count_61 : decode cMo_count 61 = .ok (.iload_n 1, 1) := by decide +kernel
theorem dMo_count_62 : decode cMo_count 62 = .ok (.ifCond .lt 9, 3) := by decide +kernel
theorem dMo_count_65 : decode cMo_count 65 = .ok (.iload_n 1, 1) := by decide +kernel
theorem dMo_count_66 : decode cMo_count 66 = .ok (.bipush 7, 2) := by decide +kernel
theorem dMo_count_68 : decode cMo_count 68 = .ok (.if_icmp .le 5, 3) := by decide +kernel
theorem dMo_count_71 : decode cMo_count 71 = .ok (.iconst (-1), 1) := by decide +kernel
theorem dMo_count_72 : decode cMo_count 72 = .ok (.ireturn, 1) := by decide +kernel
theorem dMo_count_73 : decode cMo_count 73 = .ok (.iload_n 1, 1) := by decide +kernel
theorem dMo_count_74 : decode cMo_count 74 = .ok (.iconst 2, 1) := by decide +kernel
theorem dMo_count_75 : decode cMo_count 75 = .ok (.if_icmp .ge 19, 3) := by decide +kernel
theorem dMo_count_78 : decode cMo_count 78 = .ok (.iload_n 1, 1) := by decide +kernel
theorem dMo_count_79 : decode cMo_count 79 = .ok (.ifCond .ne 10, 3) := by decide +kernel
theorem dMo_count_82 : decode cMo_count 82 = .ok (.aload_n 0, 1) := by decide +kernel
theorem dMo_count_83 : decode cMo_count 83 = .ok (.getfield 16, 3) := by decide +kernel
theorem dMo_count_86 : decode cMo_count 86 = .ok (.goto 7, 3) := by decide +kernel
theorem dMo_count_89 : decode cMo_count 89 = .ok (.aload_n 0, 1) := by decide +kernel
theorem dMo_count_90 : decode cMo_count 90 = .ok (.getfield 36, 3) := by decide +kernel
theorem dMo_count_93 : decode cMo_count 93 = .ok (.ireturn, 1) := by decide +kernel
theorem dMo_count_94 : decode cMo_count 94 = .ok (.iload_n 1, 1) := by decide +kernel
theorem dMo_count_95 : decode cMo_count 95 = .ok (.bipush 6, 2) := by decide +kernel
theorem dMo_count_97 : decode cMo_count 97 = .ok (.if_icmp .ne 10, 3) := by decide +kernel
theorem dMo_count_100 : decode cMo_count 100 = .ok (.aload_n 0, 1) := by decide +kernel
theorem dMo_count_101 : decode cMo_count 101 = .ok (.getfield 13, 3) := by decide +kernel
theorem dMo_count_104 : decode cMo_count 104 = .ok (.goto 21, 3) := by decide +kernel
theorem dMo_count_107 : decode cMo_count 107 = .ok (.iload_n 1, 1) := by decide +kernel
theorem dMo_count_108 : decode cMo_count 108 = .ok (.bipush 7, 2) := by decide +kernel
theorem dMo_count_110 : decode cMo_count 110 = .ok (.if_icmp .ne 10, 3) := by decide +kernel
theorem dMo_count_113 : decode cMo_count 113 = .ok (.aload_n 0, 1) := by decide +kernel
theorem dMo_count_114 : decode cMo_count 114 = .ok (.invokevirtual 148, 3) := by decide +kernel
theorem dMo_count_117 : decode cMo_count 117 = .ok (.goto 8, 3) := by decide +kernel
theorem dMo_count_120 : decode cMo_count 120 = .ok (.aload_n 2, 1) := by decide +kernel
theorem dMo_count_121 : decode cMo_count 121 = .ok (.iload_n 1, 1) := by decide +kernel
theorem dMo_count_122 : decode cMo_count 122 = .ok (.iconst 2, 1) := by decide +kernel
theorem dMo_count_123 : decode cMo_count 123 = .ok (.isub, 1) := by decide +kernel
theorem dMo_count_124 : decode cMo_count 124 = .ok (.iaload, 1) := by decide +kernel
theorem dMo_count_125 : decode cMo_count 125 = .ok (.ireturn, 1) := by decide +kernel
abbrev cJa_fill : ByteArray := prog_17_method_103_code
abbrev mJa_fill : MD := (⟨"java/util/Arrays", "fill", "([II)V"⟩, cJa_fill, 4, none, [])
theorem dJa_fill_0 : decode cJa_fill 0 = .ok (.iconst 0, 1) := by decide +kernel
theorem dJa_fill_1 : decode cJa_fill 1 = .ok (.istore_n 2, 1) := by decide +kernel
theorem dJa_fill_2 : decode cJa_fill 2 = .ok (.aload_n 0, 1) := by decide +kernel
theorem dJa_fill_3 : decode cJa_fill 3 = .ok (.arraylength, 1) := by decide +kernel
theorem dJa_fill_4 : decode cJa_fill 4 = .ok (.istore_n 3, 1) := by decide +kernel
theorem dJa_fill_5 : decode cJa_fill 5 = .ok (.iload_n 2, 1) := by decide +kernel
theorem dJa_fill_6 : decode cJa_fill 6 = .ok (.iload_n 3, 1) := by decide +kernel
theorem dJa_fill_7 : decode cJa_fill 7 = .ok (.if_icmp .ge 13, 3) := by decide +kernel
theorem dJa_fill_10 : decode cJa_fill 10 = .ok (.aload_n 0, 1) := by decide +kernel
theorem dJa_fill_11 : decode cJa_fill 11 = .ok (.iload_n 2, 1) := by decide +kernel
theorem dJa_fill_12 : decode cJa_fill 12 = .ok (.iload_n 1, 1) := by decide +kernel
theorem dJa_fill_13 : decode cJa_fill 13 = .ok (.iastore, 1) := by decide +kernel
theorem dJa_fill_14 : decode cJa_fill 14 = .ok (.iinc 2 1, 3) := by decide +kernel
theorem dJa_fill_17 : decode cJa_fill 17 = .ok (.goto (-12), 3) := by decide +kernel
theorem dJa_fill_20 : decode cJa_fill 20 = .ok (.return_, 1) := by decide +kernel
end
section
theorem obMo_1 : Cond.methodLink "DockBookModel" 1 objectInit ∈ maT ∧ Cond.instanceMethod objectInit ∈ maT ∧ Cond.code objectInit ⟨#[0xb1]⟩ 1 none ∈ maT := ⟨ma_in (by decide +kernel) rfl, ma_in (by decide +kernel) rfl, ma_in (by decide +kernel) rfl⟩
theorem fwMo_init_7 : ma_FW mMo_init 5 0 7 := ⟨RMo, TMo, rfl, by decide, iTMo, ma_in (by decide +kernel) rfl, ftMo, nmMo, Or.inl rfl⟩ -- DockBookModel.thrownCode
theorem fwMo_init_13 : ma_FW mMo_init 5 1 13 := ⟨RMo, TMo, rfl, by decide, iTMo, ma_in (by decide +kernel) rfl, ftMo, nmMo, Or.inl rfl⟩ -- DockBookModel.now
theorem fwMo_init_16 : ma_FW mMo_init 5 2 16 := ⟨RMo, TMo, rfl, by decide, iTMo, ma_in (by decide +kernel) rfl, ftMo, nmMo, Or.inl rfl⟩ -- DockBookModel.doors
theorem fwMo_init_19 : ma_FW mMo_init 5 3 19 := ⟨RMo, TMo, rfl, by decide, iTMo, ma_in (by decide +kernel) rfl, ftMo, nmMo, Or.inr ⟨rfl, rfl, rfl⟩⟩ -- DockBookModel.kinds
theorem fwMo_init_23 : ma_FW mMo_init 5 4 23 := ⟨RMo, TMo, rfl, by decide, iTMo, ma_in (by decide +kernel) rfl, ftMo, nmMo, Or.inr ⟨rfl, rfl, rfl⟩⟩ -- DockBookModel.opens
theorem fwMo_init_26 : ma_FW mMo_init 5 5 26 := ⟨RMo, TMo, rfl, by decide, iTMo, ma_in (by decide +kernel) rfl, ftMo, nmMo, Or.inr ⟨rfl, rfl, rfl⟩⟩ -- DockBookModel.closes
theorem fwMo_init_29 : ma_FW mMo_init 5 6 29 := ⟨RMo, TMo, rfl, by decide, iTMo, ma_in (by decide +kernel) rfl, ftMo, nmMo, Or.inr ⟨rfl, rfl, rfl⟩⟩ -- DockBookModel.isOut
theorem fwMo_init_33 : ma_FW mMo_init 5 7 33 := ⟨RMo, TMo, rfl, by decide, iTMo, ma_in (by decide +kernel) rfl, ftMo, nmMo, Or.inr ⟨rfl, rfl, rfl⟩⟩ -- DockBookModel.left
theorem fwMo_init_36 : ma_FW mMo_init 5 8 36 := ⟨RMo, TMo, rfl, by decide, iTMo, ma_in (by decide +kernel) rfl, ftMo, nmMo, Or.inl rfl⟩ -- DockBookModel.trucks
theorem fwMo_init_39 : ma_FW mMo_init 5 9 39 := ⟨RMo, TMo, rfl, by decide, iTMo, ma_in (by decide +kernel) rfl, ftMo, nmMo, Or.inr ⟨rfl, rfl, rfl⟩⟩ -- DockBookModel.state
theorem fwMo_init_42 : ma_FW mMo_init 5 10 42 := ⟨RMo, TMo, rfl, by decide, iTMo, ma_in (by decide +kernel) rfl, ftMo, nmMo, Or.inr ⟨rfl, rfl, rfl⟩⟩ -- DockBookModel.kind
theorem fwMo_init_45 : ma_FW mMo_init 5 11 45 := ⟨RMo, TMo, rfl, by decide, iTMo, ma_in (by decide +kernel) rfl, ftMo, nmMo, Or.inr ⟨rfl, rfl, rfl⟩⟩ -- DockBookModel.arrival
theorem fwMo_init_48 : ma_FW mMo_init 5 12 48 := ⟨RMo, TMo, rfl, by decide, iTMo, ma_in (by decide +kernel) rfl, ftMo, nmMo, Or.inr ⟨rfl, rfl, rfl⟩⟩ -- DockBookModel.need
theorem fwMo_init_51 : ma_FW mMo_init 5 13 51 := ⟨RMo, TMo, rfl, by decide, iTMo, ma_in (by decide +kernel) rfl, ftMo, nmMo, Or.inr ⟨rfl, rfl, rfl⟩⟩ -- DockBookModel.ranks
theorem fwMo_init_54 : ma_FW mMo_init 5 14 54 := ⟨RMo, TMo, rfl, by decide, iTMo, ma_in (by decide +kernel) rfl, ftMo, nmMo, Or.inr ⟨rfl, rfl, rfl⟩⟩ -- DockBookModel.doorOf
theorem fwMo_init_57 : ma_FW mMo_init 5 15 57 := ⟨RMo, TMo, rfl, by decide, iTMo, ma_in (by decide +kernel) rfl, ftMo, nmMo, Or.inr ⟨rfl, rfl, rfl⟩⟩ -- DockBookModel.start
theorem fwMo_init_60 : ma_FW mMo_init 5 16 60 := ⟨RMo, TMo, rfl, by decide, iTMo, ma_in (by decide +kernel) rfl, ftMo, nmMo, Or.inr ⟨rfl, rfl, rfl⟩⟩ -- DockBookModel.gone
theorem fwMo_init_63 : ma_FW mMo_init 5 17 63 := ⟨RMo, TMo, rfl, by decide, iTMo, ma_in (by decide +kernel) rfl, ftMo, nmMo, Or.inr ⟨rfl, rfl, rfl⟩⟩ -- DockBookModel.seals
theorem fwMo_init_66 : ma_FW mMo_init 5 18 66 := ⟨RMo, TMo, rfl, by decide, iTMo, ma_in (by decide +kernel) rfl, ftMo, nmMo, Or.inr ⟨rfl, rfl, rfl⟩⟩ -- DockBookModel.twice
theorem fwMo_init_69 : ma_FW mMo_init 5 19 69 := ⟨RMo, TMo, rfl, by decide, iTMo, ma_in (by decide +kernel) rfl, ftMo, nmMo, Or.inr ⟨rfl, rfl, rfl⟩⟩ -- DockBookModel.same
theorem fwMo_init_72 : ma_FW mMo_init 5 20 72 := ⟨RMo, TMo, rfl, by decide, iTMo, ma_in (by decide +kernel) rfl, ftMo, nmMo, Or.inl rfl⟩ -- DockBookModel.wasExact
theorem fwMo_init_76 : ma_FW mMo_init 5 21 76 := ⟨RMo, TMo, rfl, by decide, iTMo, ma_in (by decide +kernel) rfl, ftMo, nmMo, Or.inl rfl⟩ -- DockBookModel.movedNow
theorem fwMo_init_79 : ma_FW mMo_init 5 22 79 := ⟨RMo, TMo, rfl, by decide, iTMo, ma_in (by decide +kernel) rfl, ftMo, nmMo, Or.inl rfl⟩ -- DockBookModel.waits
theorem fwMo_init_82 : ma_FW mMo_init 5 23 82 := ⟨RMo, TMo, rfl, by decide, iTMo, ma_in (by decide +kernel) rfl, ftMo, nmMo, Or.inr ⟨rfl, rfl, rfl⟩⟩ -- DockBookModel.waiting
theorem fwMo_init_85 : ma_FW mMo_init 5 24 85 := ⟨RMo, TMo, rfl, by decide, iTMo, ma_in (by decide +kernel) rfl, ftMo, nmMo, Or.inr ⟨rfl, rfl, rfl⟩⟩ -- DockBookModel.newDoor
theorem fwMo_init_88 : ma_FW mMo_init 5 25 88 := ⟨RMo, TMo, rfl, by decide, iTMo, ma_in (by decide +kernel) rfl, ftMo, nmMo, Or.inr ⟨rfl, rfl, rfl⟩⟩ -- DockBookModel.newStart
theorem fwMo_init_91 : ma_FW mMo_init 5 26 91 := ⟨RMo, TMo, rfl, by decide, iTMo, ma_in (by decide +kernel) rfl, ftMo, nmMo, Or.inr ⟨rfl, rfl, rfl⟩⟩ -- DockBookModel.setCost
theorem fwMo_init_94 : ma_FW mMo_init 5 27 94 := ⟨RMo, TMo, rfl, by decide, iTMo, ma_in (by decide +kernel) rfl, ftMo, nmMo, Or.inr ⟨rfl, rfl, rfl⟩⟩ -- DockBookModel.setStart
theorem fwMo_init_97 : ma_FW mMo_init 5 28 97 := ⟨RMo, TMo, rfl, by decide, iTMo, ma_in (by decide +kernel) rfl, ftMo, nmMo, Or.inr ⟨rfl, rfl, rfl⟩⟩ -- DockBookModel.trial
theorem fwMo_init_100 : ma_FW mMo_init 5 29 100 := ⟨RMo, TMo, rfl, by decide, iTMo, ma_in (by decide +kernel) rfl, ftMo, nmMo, Or.inr ⟨rfl, rfl, rfl⟩⟩ -- DockBookModel.counts
theorem fwMo_findWaiting_79 : ma_FW mMo_findWaiting 5 22 79 := ⟨RMo, TMo, rfl, by decide, iTMo, ma_in (by decide +kernel) rfl, ftMo, nmMo, Or.inl rfl⟩ -- DockBookModel.waits
theorem flMo_36 : ma_FL "DockBookModel" 5 8 36 := ⟨RMo, TMo, rfl, by decide, iTMo, ma_in (by decide +kernel) rfl, ftMo, nmMo⟩ -- DockBookModel.trucks
theorem flMo_39 : ma_FL "DockBookModel" 5 9 39 := ⟨RMo, TMo, rfl, by decide, iTMo, ma_in (by decide +kernel) rfl, ftMo, nmMo⟩ -- DockBookModel.state
theorem flMo_82 : ma_FL "DockBookModel" 5 23 82 := ⟨RMo, TMo, rfl, by decide, iTMo, ma_in (by decide +kernel) rfl, ftMo, nmMo⟩ -- DockBookModel.waiting
theorem flMo_79 : ma_FL "DockBookModel" 5 22 79 := ⟨RMo, TMo, rfl, by decide, iTMo, ma_in (by decide +kernel) rfl, ftMo, nmMo⟩ -- DockBookModel.waits
theorem flMo_54 : ma_FL "DockBookModel" 5 14 54 := ⟨RMo, TMo, rfl, by decide, iTMo, ma_in (by decide +kernel) rfl, ftMo, nmMo⟩ -- DockBookModel.doorOf
theorem cwmMo_at : ma_CW mMo_at := Or.inl ⟨rfl, ma_in (by decide +kernel) rfl⟩
theorem hvmMo_at : Cond.instanceMethod mMo_at.1 ∈ maT ∧ (∃ q, maCl[5]? = some q ∧ Cond.selects q.1 mMo_at.1 mMo_at.1 ∈ maT) := ⟨ma_in (by decide +kernel) rfl, _, rfl, ma_in (by decide +kernel) rfl⟩
theorem vwMo_103 : ma_VW "DockBookModel" 103 mMo_at 5 1 := ⟨ma_in (by decide +kernel) rfl, hvmMo_at.1, hvmMo_at.2, ⟨by decide +kernel, by decide +kernel⟩, by decide +kernel, cwmMo_at, by decide +kernel, by decide⟩
theorem flMo_57 : ma_FL "DockBookModel" 5 15 57 := ⟨RMo, TMo, rfl, by decide, iTMo, ma_in (by decide +kernel) rfl, ftMo, nmMo⟩ -- DockBookModel.start
theorem flMo_48 : ma_FL "DockBookModel" 5 12 48 := ⟨RMo, TMo, rfl, by decide, iTMo, ma_in (by decide +kernel) rfl, ftMo, nmMo⟩ -- DockBookModel.need
theorem flMo_13 : ma_FL "DockBookModel" 5 1 13 := ⟨RMo, TMo, rfl, by decide, iTMo, ma_in (by decide +kernel) rfl, ftMo, nmMo⟩ -- DockBookModel.now
theorem flMo_29 : ma_FL "DockBookModel" 5 6 29 := ⟨RMo, TMo, rfl, by decide, iTMo, ma_in (by decide +kernel) rfl, ftMo, nmMo⟩ -- DockBookModel.isOut
theorem flMo_19 : ma_FL "DockBookModel" 5 3 19 := ⟨RMo, TMo, rfl, by decide, iTMo, ma_in (by decide +kernel) rfl, ftMo, nmMo⟩ -- DockBookModel.kinds
theorem flMo_42 : ma_FL "DockBookModel" 5 10 42 := ⟨RMo, TMo, rfl, by decide, iTMo, ma_in (by decide +kernel) rfl, ftMo, nmMo⟩ -- DockBookModel.kind
theorem flMo_45 : ma_FL "DockBookModel" 5 11 45 := ⟨RMo, TMo, rfl, by decide, iTMo, ma_in (by decide +kernel) rfl, ftMo, nmMo⟩ -- DockBookModel.arrival
theorem flMo_23 : ma_FL "DockBookModel" 5 4 23 := ⟨RMo, TMo, rfl, by decide, iTMo, ma_in (by decide +kernel) rfl, ftMo, nmMo⟩ -- DockBookModel.opens
theorem flMo_26 : ma_FL "DockBookModel" 5 5 26 := ⟨RMo, TMo, rfl, by decide, iTMo, ma_in (by decide +kernel) rfl, ftMo, nmMo⟩ -- DockBookModel.closes
theorem cwmMo_freeFrom : ma_CW mMo_freeFrom := Or.inl ⟨rfl, ma_in (by decide +kernel) rfl⟩
theorem hvmMo_freeFrom : Cond.instanceMethod mMo_freeFrom.1 ∈ maT ∧ (∃ q, maCl[5]? = some q ∧ Cond.selects q.1 mMo_freeFrom.1 mMo_freeFrom.1 ∈ maT) := ⟨ma_in (by decide +kernel) rfl, _, rfl, ma_in (by decide +kernel) rfl⟩
theorem vwMo_107 : ma_VW "DockBookModel" 107 mMo_freeFrom 5 1 := ⟨ma_in (by decide +kernel) rfl, hvmMo_freeFrom.1, hvmMo_freeFrom.2, ⟨by decide +kernel, by decide +kernel⟩, by decide +kernel, cwmMo_freeFrom, by decide +kernel, by decide⟩
theorem cwmMo_startAt : ma_CW mMo_startAt := Or.inl ⟨rfl, ma_in (by decide +kernel) rfl⟩
theorem hvmMo_startAt : Cond.instanceMethod mMo_startAt.1 ∈ maT ∧ (∃ q, maCl[5]? = some q ∧ Cond.selects q.1 mMo_startAt.1 mMo_startAt.1 ∈ maT) := ⟨ma_in (by decide +kernel) rfl, _, rfl, ma_in (by decide +kernel) rfl⟩
theorem vwMo_110 : ma_VW "DockBookModel" 110 mMo_startAt 5 3 := ⟨ma_in (by decide +kernel) rfl, hvmMo_startAt.1, hvmMo_startAt.2, ⟨by decide +kernel, by decide +kernel⟩, by decide +kernel, cwmMo_startAt, by decide +kernel, by decide⟩
theorem flMo_97 : ma_FL "DockBookModel" 5 28 97 := ⟨RMo, TMo, rfl, by decide, iTMo, ma_in (by decide +kernel) rfl, ftMo, nmMo⟩ -- DockBookModel.trial
theorem flMo_91 : ma_FL "DockBookModel" 5 26 91 := ⟨RMo, TMo, rfl, by decide, iTMo, ma_in (by decide +kernel) rfl, ftMo, nmMo⟩ -- DockBookModel.setCost
theorem cwmMo_inOrder : ma_CW mMo_inOrder := Or.inl ⟨rfl, ma_in (by decide +kernel) rfl⟩
theorem hvmMo_inOrder : Cond.instanceMethod mMo_inOrder.1 ∈ maT ∧ (∃ q, maCl[5]? = some q ∧ Cond.selects q.1 mMo_inOrder.1 mMo_inOrder.1 ∈ maT) := ⟨ma_in (by decide +kernel) rfl, _, rfl, ma_in (by decide +kernel) rfl⟩
theorem vwMo_114 : ma_VW "DockBookModel" 114 mMo_inOrder 5 3 := ⟨ma_in (by decide +kernel) rfl, hvmMo_inOrder.1, hvmMo_inOrder.2, ⟨by decide +kernel, by decide +kernel⟩, by decide +kernel, cwmMo_inOrder, by decide +kernel, by decide⟩
theorem flMo_94 : ma_FL "DockBookModel" 5 27 94 := ⟨RMo, TMo, rfl, by decide, iTMo, ma_in (by decide +kernel) rfl, ftMo, nmMo⟩ -- DockBookModel.setStart
theorem flMo_16 : ma_FL "DockBookModel" 5 2 16 := ⟨RMo, TMo, rfl, by decide, iTMo, ma_in (by decide +kernel) rfl, ftMo, nmMo⟩ -- DockBookModel.doors
theorem cwmMo_findSet : ma_CW mMo_findSet := Or.inl ⟨rfl, ma_in (by decide +kernel) rfl⟩
theorem hvmMo_findSet : Cond.instanceMethod mMo_findSet.1 ∈ maT ∧ (∃ q, maCl[5]? = some q ∧ Cond.selects q.1 mMo_findSet.1 mMo_findSet.1 ∈ maT) := ⟨ma_in (by decide +kernel) rfl, _, rfl, ma_in (by decide +kernel) rfl⟩
theorem vwMo_117 : ma_VW "DockBookModel" 117 mMo_findSet 5 2 := ⟨ma_in (by decide +kernel) rfl, hvmMo_findSet.1, hvmMo_findSet.2, ⟨by decide +kernel, by decide +kernel⟩, by decide +kernel, cwmMo_findSet, by decide +kernel, by decide⟩
theorem cwmMo_costOf : ma_CW mMo_costOf := Or.inl ⟨rfl, ma_in (by decide +kernel) rfl⟩
theorem hvmMo_costOf : Cond.instanceMethod mMo_costOf.1 ∈ maT ∧ (∃ q, maCl[5]? = some q ∧ Cond.selects q.1 mMo_costOf.1 mMo_costOf.1 ∈ maT) := ⟨ma_in (by decide +kernel) rfl, _, rfl, ma_in (by decide +kernel) rfl⟩
theorem vwMo_121 : ma_VW "DockBookModel" 121 mMo_costOf 5 1 := ⟨ma_in (by decide +kernel) rfl, hvmMo_costOf.1, hvmMo_costOf.2, ⟨by decide +kernel, by decide +kernel⟩, by decide +kernel, cwmMo_costOf, by decide +kernel, by decide⟩
theorem flMo_85 : ma_FL "DockBookModel" 5 24 85 := ⟨RMo, TMo, rfl, by decide, iTMo, ma_in (by decide +kernel) rfl, ftMo, nmMo⟩ -- DockBookModel.newDoor
theorem flMo_88 : ma_FL "DockBookModel" 5 25 88 := ⟨RMo, TMo, rfl, by decide, iTMo, ma_in (by decide +kernel) rfl, ftMo, nmMo⟩ -- DockBookModel.newStart
theorem cwmMo_setOf : ma_CW mMo_setOf := Or.inl ⟨rfl, ma_in (by decide +kernel) rfl⟩
theorem hvmMo_setOf : Cond.instanceMethod mMo_setOf.1 ∈ maT ∧ (∃ q, maCl[5]? = some q ∧ Cond.selects q.1 mMo_setOf.1 mMo_setOf.1 ∈ maT) := ⟨ma_in (by decide +kernel) rfl, _, rfl, ma_in (by decide +kernel) rfl⟩
theorem vwMo_124 : ma_VW "DockBookModel" 124 mMo_setOf 5 1 := ⟨ma_in (by decide +kernel) rfl, hvmMo_setOf.1, hvmMo_setOf.2, ⟨by decide +kernel, by decide +kernel⟩, by decide +kernel, cwmMo_setOf, by decide +kernel, by decide⟩
theorem flMo_51 : ma_FL "DockBookModel" 5 13 51 := ⟨RMo, TMo, rfl, by decide, iTMo, ma_in (by decide +kernel) rfl, ftMo, nmMo⟩ -- DockBookModel.ranks
theorem cwmMo_ahead : ma_CW mMo_ahead := Or.inl ⟨rfl, ma_in (by decide +kernel) rfl⟩
theorem hvmMo_ahead : Cond.instanceMethod mMo_ahead.1 ∈ maT ∧ (∃ q, maCl[5]? = some q ∧ Cond.selects q.1 mMo_ahead.1 mMo_ahead.1 ∈ maT) := ⟨ma_in (by decide +kernel) rfl, _, rfl, ma_in (by decide +kernel) rfl⟩
theorem vwMo_127 : ma_VW "DockBookModel" 127 mMo_ahead 5 2 := ⟨ma_in (by decide +kernel) rfl, hvmMo_ahead.1, hvmMo_ahead.2, ⟨by decide +kernel, by decide +kernel⟩, by decide +kernel, cwmMo_ahead, by decide +kernel, by decide⟩
theorem flMo_7 : ma_FL "DockBookModel" 5 0 7 := ⟨RMo, TMo, rfl, by decide, iTMo, ma_in (by decide +kernel) rfl, ftMo, nmMo⟩ -- DockBookModel.thrownCode
theorem cwmMo_not : ma_CW mMo_not := Or.inl ⟨rfl, ma_in (by decide +kernel) rfl⟩
theorem vwMo_131 : ma_SW "DockBookModel" 131 mMo_not 3 := ⟨ma_in (by decide +kernel) rfl, ma_in (by decide +kernel) rfl, ma_in (by decide +kernel) rfl, ⟨by decide +kernel, by decide +kernel⟩, by decide +kernel, cwmMo_not, by decide +kernel, by decide⟩
theorem fwMo_door_7 : ma_FW mMo_door 5 0 7 := ⟨RMo, TMo, rfl, by decide, iTMo, ma_in (by decide +kernel) rfl, ftMo, nmMo, Or.inl rfl⟩ -- DockBookModel.thrownCode
theorem fwMo_door_16 : ma_FW mMo_door 5 2 16 := ⟨RMo, TMo, rfl, by decide, iTMo, ma_in (by decide +kernel) rfl, ftMo, nmMo, Or.inl rfl⟩ -- DockBookModel.doors
theorem fwMo_truck_7 : ma_FW mMo_truck 5 0 7 := ⟨RMo, TMo, rfl, by decide, iTMo, ma_in (by decide +kernel) rfl, ftMo, nmMo, Or.inl rfl⟩ -- DockBookModel.thrownCode
theorem flMo_63 : ma_FL "DockBookModel" 5 17 63 := ⟨RMo, TMo, rfl, by decide, iTMo, ma_in (by decide +kernel) rfl, ftMo, nmMo⟩ -- DockBookModel.seals
theorem flMo_60 : ma_FL "DockBookModel" 5 16 60 := ⟨RMo, TMo, rfl, by decide, iTMo, ma_in (by decide +kernel) rfl, ftMo, nmMo⟩ -- DockBookModel.gone
theorem cwmMo_nothing : ma_CW mMo_nothing := Or.inl ⟨rfl, ma_in (by decide +kernel) rfl⟩
theorem hvmMo_nothing : Cond.instanceMethod mMo_nothing.1 ∈ maT ∧ (∃ q, maCl[5]? = some q ∧ Cond.selects q.1 mMo_nothing.1 mMo_nothing.1 ∈ maT) := ⟨ma_in (by decide +kernel) rfl, _, rfl, ma_in (by decide +kernel) rfl⟩
theorem vwMo_135 : ma_VW "DockBookModel" 135 mMo_nothing 5 1 := ⟨ma_in (by decide +kernel) rfl, hvmMo_nothing.1, hvmMo_nothing.2, ⟨by decide +kernel, by decide +kernel⟩, by decide +kernel, cwmMo_nothing, by decide +kernel, by decide⟩
theorem fwMo_truck_36 : ma_FW mMo_truck 5 8 36 := ⟨RMo, TMo, rfl, by decide, iTMo, ma_in (by decide +kernel) rfl, ftMo, nmMo, Or.inl rfl⟩ -- DockBookModel.trucks
theorem fwMo_assign_7 : ma_FW mMo_assign 5 0 7 := ⟨RMo, TMo, rfl, by decide, iTMo, ma_in (by decide +kernel) rfl, ftMo, nmMo, Or.inl rfl⟩ -- DockBookModel.thrownCode
theorem cwmMo_findWaiting : ma_CW mMo_findWaiting := Or.inl ⟨rfl, ma_in (by decide +kernel) rfl⟩
theorem hvmMo_findWaiting : Cond.instanceMethod mMo_findWaiting.1 ∈ maT ∧ (∃ q, maCl[5]? = some q ∧ Cond.selects q.1 mMo_findWaiting.1 mMo_findWaiting.1 ∈ maT) := ⟨ma_in (by decide +kernel) rfl, _, rfl, ma_in (by decide +kernel) rfl⟩
theorem vwMo_139 : ma_VW "DockBookModel" 139 mMo_findWaiting 5 0 := ⟨ma_in (by decide +kernel) rfl, hvmMo_findWaiting.1, hvmMo_findWaiting.2, ⟨by decide +kernel, by decide +kernel⟩, by decide +kernel, cwmMo_findWaiting, by decide +kernel, by decide⟩
theorem fwMo_assign_72 : ma_FW mMo_assign 5 20 72 := ⟨RMo, TMo, rfl, by decide, iTMo, ma_in (by decide +kernel) rfl, ftMo, nmMo, Or.inl rfl⟩ -- DockBookModel.wasExact
theorem flMo_72 : ma_FL "DockBookModel" 5 20 72 := ⟨RMo, TMo, rfl, by decide, iTMo, ma_in (by decide +kernel) rfl, ftMo, nmMo⟩ -- DockBookModel.wasExact
theorem cwmMo_exactly : ma_CW mMo_exactly := Or.inl ⟨rfl, ma_in (by decide +kernel) rfl⟩
theorem hvmMo_exactly : Cond.instanceMethod mMo_exactly.1 ∈ maT ∧ (∃ q, maCl[5]? = some q ∧ Cond.selects q.1 mMo_exactly.1 mMo_exactly.1 ∈ maT) := ⟨ma_in (by decide +kernel) rfl, _, rfl, ma_in (by decide +kernel) rfl⟩
theorem vwMo_142 : ma_VW "DockBookModel" 142 mMo_exactly 5 0 := ⟨ma_in (by decide +kernel) rfl, hvmMo_exactly.1, hvmMo_exactly.2, ⟨by decide +kernel, by decide +kernel⟩, by decide +kernel, cwmMo_exactly, by decide +kernel, by decide⟩
theorem cwmMo_byRule : ma_CW mMo_byRule := Or.inl ⟨rfl, ma_in (by decide +kernel) rfl⟩
theorem hvmMo_byRule : Cond.instanceMethod mMo_byRule.1 ∈ maT ∧ (∃ q, maCl[5]? = some q ∧ Cond.selects q.1 mMo_byRule.1 mMo_byRule.1 ∈ maT) := ⟨ma_in (by decide +kernel) rfl, _, rfl, ma_in (by decide +kernel) rfl⟩
theorem vwMo_145 : ma_VW "DockBookModel" 145 mMo_byRule 5 0 := ⟨ma_in (by decide +kernel) rfl, hvmMo_byRule.1, hvmMo_byRule.2, ⟨by decide +kernel, by decide +kernel⟩, by decide +kernel, cwmMo_byRule, by decide +kernel, by decide⟩
theorem fwMo_assign_76 : ma_FW mMo_assign 5 21 76 := ⟨RMo, TMo, rfl, by decide, iTMo, ma_in (by decide +kernel) rfl, ftMo, nmMo, Or.inl rfl⟩ -- DockBookModel.movedNow
theorem flMo_76 : ma_FL "DockBookModel" 5 21 76 := ⟨RMo, TMo, rfl, by decide, iTMo, ma_in (by decide +kernel) rfl, ftMo, nmMo⟩ -- DockBookModel.movedNow
theorem cwmMo_costNow : ma_CW mMo_costNow := Or.inl ⟨rfl, ma_in (by decide +kernel) rfl⟩
theorem hvmMo_costNow : Cond.instanceMethod mMo_costNow.1 ∈ maT ∧ (∃ q, maCl[5]? = some q ∧ Cond.selects q.1 mMo_costNow.1 mMo_costNow.1 ∈ maT) := ⟨ma_in (by decide +kernel) rfl, _, rfl, ma_in (by decide +kernel) rfl⟩
theorem vwMo_148 : ma_VW "DockBookModel" 148 mMo_costNow 5 0 := ⟨ma_in (by decide +kernel) rfl, hvmMo_costNow.1, hvmMo_costNow.2, ⟨by decide +kernel, by decide +kernel⟩, by decide +kernel, cwmMo_costNow, by decide +kernel, by decide⟩
theorem fwMo_exact_7 : ma_FW mMo_exact 5 0 7 := ⟨RMo, TMo, rfl, by decide, iTMo, ma_in (by decide +kernel) rfl, ftMo, nmMo, Or.inl rfl⟩ -- DockBookModel.thrownCode
theorem fwMo_moved_7 : ma_FW mMo_moved 5 0 7 := ⟨RMo, TMo, rfl, by decide, iTMo, ma_in (by decide +kernel) rfl, ftMo, nmMo, Or.inl rfl⟩ -- DockBookModel.thrownCode
theorem fwMo_bound_7 : ma_FW mMo_bound 5 0 7 := ⟨RMo, TMo, rfl, by decide, iTMo, ma_in (by decide +kernel) rfl, ftMo, nmMo, Or.inl rfl⟩ -- DockBookModel.thrownCode
theorem cwmMo_noTruck : ma_CW mMo_noTruck := Or.inl ⟨rfl, ma_in (by decide +kernel) rfl⟩
theorem hvmMo_noTruck : Cond.instanceMethod mMo_noTruck.1 ∈ maT ∧ (∃ q, maCl[5]? = some q ∧ Cond.selects q.1 mMo_noTruck.1 mMo_noTruck.1 ∈ maT) := ⟨ma_in (by decide +kernel) rfl, _, rfl, ma_in (by decide +kernel) rfl⟩
theorem vwMo_152 : ma_VW "DockBookModel" 152 mMo_noTruck 5 1 := ⟨ma_in (by decide +kernel) rfl, hvmMo_noTruck.1, hvmMo_noTruck.2, ⟨by decide +kernel, by decide +kernel⟩, by decide +kernel, cwmMo_noTruck, by decide +kernel, by decide⟩
theorem fwMo_call_7 : ma_FW mMo_call 5 0 7 := ⟨RMo, TMo, rfl, by decide, iTMo, ma_in (by decide +kernel) rfl, ftMo, nmMo, Or.inl rfl⟩ -- DockBookModel.thrownCode
theorem fwMo_seal_7 : ma_FW mMo_seal 5 0 7 := ⟨RMo, TMo, rfl, by decide, iTMo, ma_in (by decide +kernel) rfl, ftMo, nmMo, Or.inl rfl⟩ -- DockBookModel.thrownCode
theorem flMo_66 : ma_FL "DockBookModel" 5 18 66 := ⟨RMo, TMo, rfl, by decide, iTMo, ma_in (by decide +kernel) rfl, ftMo, nmMo⟩ -- DockBookModel.twice
theorem fwMo_load_7 : ma_FW mMo_load 5 0 7 := ⟨RMo, TMo, rfl, by decide, iTMo, ma_in (by decide +kernel) rfl, ftMo, nmMo, Or.inl rfl⟩ -- DockBookModel.thrownCode
theorem flMo_69 : ma_FL "DockBookModel" 5 19 69 := ⟨RMo, TMo, rfl, by decide, iTMo, ma_in (by decide +kernel) rfl, ftMo, nmMo⟩ -- DockBookModel.same
theorem fwMo_depart_7 : ma_FW mMo_depart 5 0 7 := ⟨RMo, TMo, rfl, by decide, iTMo, ma_in (by decide +kernel) rfl, ftMo, nmMo, Or.inl rfl⟩ -- DockBookModel.thrownCode
theorem flMo_33 : ma_FL "DockBookModel" 5 7 33 := ⟨RMo, TMo, rfl, by decide, iTMo, ma_in (by decide +kernel) rfl, ftMo, nmMo⟩ -- DockBookModel.left
theorem fwMo_late_7 : ma_FW mMo_late 5 0 7 := ⟨RMo, TMo, rfl, by decide, iTMo, ma_in (by decide +kernel) rfl, ftMo, nmMo, Or.inl rfl⟩ -- DockBookModel.thrownCode
theorem fwMo_cancel_7 : ma_FW mMo_cancel 5 0 7 := ⟨RMo, TMo, rfl, by decide, iTMo, ma_in (by decide +kernel) rfl, ftMo, nmMo, Or.inl rfl⟩ -- DockBookModel.thrownCode
theorem cwmMo_noDoor : ma_CW mMo_noDoor := Or.inl ⟨rfl, ma_in (by decide +kernel) rfl⟩
theorem hvmMo_noDoor : Cond.instanceMethod mMo_noDoor.1 ∈ maT ∧ (∃ q, maCl[5]? = some q ∧ Cond.selects q.1 mMo_noDoor.1 mMo_noDoor.1 ∈ maT) := ⟨ma_in (by decide +kernel) rfl, _, rfl, ma_in (by decide +kernel) rfl⟩
theorem vwMo_156 : ma_VW "DockBookModel" 156 mMo_noDoor 5 1 := ⟨ma_in (by decide +kernel) rfl, hvmMo_noDoor.1, hvmMo_noDoor.2, ⟨by decide +kernel, by decide +kernel⟩, by decide +kernel, cwmMo_noDoor, by decide +kernel, by decide⟩
theorem fwMo_out_7 : ma_FW mMo_out 5 0 7 := ⟨RMo, TMo, rfl, by decide, iTMo, ma_in (by decide +kernel) rfl, ftMo, nmMo, Or.inl rfl⟩ -- DockBookModel.thrownCode
theorem fwMo_pass_7 : ma_FW mMo_pass 5 0 7 := ⟨RMo, TMo, rfl, by decide, iTMo, ma_in (by decide +kernel) rfl, ftMo, nmMo, Or.inl rfl⟩ -- DockBookModel.thrownCode
theorem fwMo_pass_13 : ma_FW mMo_pass 5 1 13 := ⟨RMo, TMo, rfl, by decide, iTMo, ma_in (by decide +kernel) rfl, ftMo, nmMo, Or.inl rfl⟩ -- DockBookModel.now
theorem fwMo_order_7 : ma_FW mMo_order 5 0 7 := ⟨RMo, TMo, rfl, by decide, iTMo, ma_in (by decide +kernel) rfl, ftMo, nmMo, Or.inl rfl⟩ -- DockBookModel.thrownCode
theorem fwMo_told_7 : ma_FW mMo_told 5 0 7 := ⟨RMo, TMo, rfl, by decide, iTMo, ma_in (by decide +kernel) rfl, ftMo, nmMo, Or.inl rfl⟩ -- DockBookModel.thrownCode
theorem fwMo_known_7 : ma_FW mMo_known 5 0 7 := ⟨RMo, TMo, rfl, by decide, iTMo, ma_in (by decide +kernel) rfl, ftMo, nmMo, Or.inl rfl⟩ -- DockBookModel.thrownCode
theorem fwMo_count_7 : ma_FW mMo_count 5 0 7 := ⟨RMo, TMo, rfl, by decide, iTMo, ma_in (by decide +kernel) rfl, ftMo, nmMo, Or.inl rfl⟩ -- DockBookModel.thrownCode
theorem flMo_100 : ma_FL "DockBookModel" 5 29 100 := ⟨RMo, TMo, rfl, by decide, iTMo, ma_in (by decide +kernel) rfl, ftMo, nmMo⟩ -- DockBookModel.counts
theorem cwmJa_fill : ma_CW mJa_fill := Or.inl ⟨rfl, ma_in (by decide +kernel) rfl⟩
theorem vwOr_22 : ma_SW "DockBook$DoorOrders" 22 mJa_fill 2 := ⟨ma_in (by decide +kernel) rfl, ma_in (by decide +kernel) rfl, ma_in (by decide +kernel) rfl, ⟨by decide +kernel, by decide +kernel⟩, by decide +kernel, cwmJa_fill, by decide +kernel, by decide⟩
theorem lcOr_21 : Jvm.Cond.constant "DockBook$DoorOrders" 21 1000000 ∈ maT := ma_in (by decide +kernel) rfl
theorem lcCh_27 : Jvm.Cond.constant "DockBook$DoorChoice" 27 1000000 ∈ maT := ma_in (by decide +kernel) rfl
end
section
/-! RULES IN SHORT FOR THE SAFE WALK: what is forgotten, natural numbers, calls that end -/
theorem Go.hav {sc : Nat × (Nat → Int32)} {cl rd : Bool} {d bc bs : Nat} {y : MD} {pc : Nat} {ls st : List AV} {h : AH} {Q : GO → AH → Prop} {Kp : AH → Prop} (hk : Kp h) (kk : ∀ h1 : AH, Kp h1 → Go sc cl rd d bc bs y pc ls st h1 Q) : Go sc cl rd d bc bs y pc ls st h Q := kk h hk
theorem Go.cvt {sc : Nat × (Nat → Int32)} {cl rd : Bool} {d bc bs : Nat} {y : MD} {pc : Nat} {ls st : List AV} {h : AH} {Q : GO → AH → Prop} {v v' : Int32} (e : v = v') (kk : Go sc cl rd d bc bs y pc ls (vI v' :: st) h Q) : Go sc cl rd d bc bs y pc ls (vI v :: st) h Q := by
  rw [e]; exact kk
theorem Go.getIv {sc : Nat × (Nat → Int32)} {cl rd : Bool} {d bc bs : Nat} {y : MD} {pc : Nat} {ls st : List AV} {h : AH} {Q : GO → AH → Prop} {k i f idx : Nat} {v : Int32} (hd : decode y.2.1 pc = .ok (.getfield idx, 3)) (hf : ma_FL y.1.cls k f idx) (hk : k < 90) (hfk : ma_fk k f = false) (hv : h.1 k i f = v) (kk : Go sc cl rd d bc bs y (pc + 3) ls (vI v :: st) h Q) : Go sc cl rd d bc bs y pc ls (vO k i :: st) h Q :=
  Go.getI hd hf hk hfk (Go.cvt hv kk)
theorem Go.ialdv {sc : Nat × (Nat → Int32)} {cl rd : Bool} {d bc bs : Nat} {y : MD} {pc : Nat} {ls st : List AV} {h : AH} {Q : GO → AH → Prop} {i jn : Nat} {j v : Int32} (hd : decode y.2.1 pc = .ok (.iaload, 1)) (hj : j = nI jn) (hlt : jn < h.2.2.2.1 100 i) (hb31 : jn < 2 ^ 31) (hv : h.1 100 i jn = v) (kk : Go sc cl rd d bc bs y (pc + 1) ls (vI v :: st) h Q) : Go sc cl rd d bc bs y pc ls (vI j :: vO 100 i :: st) h Q :=
  Go.iald hd hj hlt hb31 (Go.cvt hv kk)
theorem Go.ishr {sc : Nat × (Nat → Int32)} {cl rd : Bool} {d bc bs : Nat} {y : MD} {pc : Nat} {ls st : List AV} {h : AH} {Q : GO → AH → Prop} {x y' : Int32} (hd : decode y.2.1 pc = .ok (.ishr, 1)) (k : Go sc cl rd d bc bs y (pc + 1) ls (vI (x >>> (y' &&& 31)) :: st) h Q) : Go sc cl rd d bc bs y pc ls (vI y' :: vI x :: st) h Q := by
  intro p l e R s m args below meth c H locs cells slots mc ms D aC A ad ad0 n0 L S hC hDy
  obtain ⟨hx, hb, hml, hr, hown, hts, hlocks, hnm, hex, hK, hKa, hNc, hfl, hmH⟩ := id hC
  obtain ⟨hRm, hHR, hSX, hS, hA, hEx, hL, hSt, hCl⟩ := id hDy
  obtain ⟨z1, S1, rfl, rfl, z2, S2, rfl, rfl, hSt⟩ := hSt
  exact lv_ishr hx hb hd (k p l e R s m args below meth c H locs cells slots mc ms D aC A ad ad0 n0 L (.int (x >>> (y' &&& 31)) :: S2) hC ⟨hRm, hHR, hSX, hS, hA, hEx, hL, ⟨_, _, rfl, rfl, hSt⟩, hCl⟩)
theorem Go.idiv {sc : Nat × (Nat → Int32)} {cl rd : Bool} {d bc bs : Nat} {y : MD} {pc : Nat} {ls st : List AV} {h : AH} {Q : GO → AH → Prop} {x y' : Int32} (hd : decode y.2.1 pc = .ok (.idiv, 1)) (hne : ¬ y' = 0) (k : Go sc cl rd d bc bs y (pc + 1) ls (vI (x / y') :: st) h Q) : Go sc cl rd d bc bs y pc ls (vI y' :: vI x :: st) h Q := by
  intro p l e R s m args below meth c H locs cells slots mc ms D aC A ad ad0 n0 L S hC hDy
  obtain ⟨hx, hb, hml, hr, hown, hts, hlocks, hnm, hex, hK, hKa, hNc, hfl, hmH⟩ := id hC
  obtain ⟨hRm, hHR, hSX, hS, hA, hEx, hL, hSt, hCl⟩ := id hDy
  obtain ⟨z1, S1, rfl, rfl, z2, S2, rfl, rfl, hSt⟩ := hSt
  exact lv_idiv hx hb hd hne (k p l e R s m args below meth c H locs cells slots mc ms D aC A ad ad0 n0 L (.int (x / y') :: S2) hC ⟨hRm, hHR, hSX, hS, hA, hEx, hL, ⟨_, _, rfl, rfl, hSt⟩, hCl⟩)
theorem Go.irem {sc : Nat × (Nat → Int32)} {cl rd : Bool} {d bc bs : Nat} {y : MD} {pc : Nat} {ls st : List AV} {h : AH} {Q : GO → AH → Prop} {x y' : Int32} (hd : decode y.2.1 pc = .ok (.irem, 1)) (hne : ¬ y' = 0) (k : Go sc cl rd d bc bs y (pc + 1) ls (vI (x - x / y' * y') :: st) h Q) : Go sc cl rd d bc bs y pc ls (vI y' :: vI x :: st) h Q := by
  intro p l e R s m args below meth c H locs cells slots mc ms D aC A ad ad0 n0 L S hC hDy
  obtain ⟨hx, hb, hml, hr, hown, hts, hlocks, hnm, hex, hK, hKa, hNc, hfl, hmH⟩ := id hC
  obtain ⟨hRm, hHR, hSX, hS, hA, hEx, hL, hSt, hCl⟩ := id hDy
  obtain ⟨z1, S1, rfl, rfl, z2, S2, rfl, rfl, hSt⟩ := hSt
  exact lv_irem hx hb hd hne (k p l e R s m args below meth c H locs cells slots mc ms D aC A ad ad0 n0 L (.int (x - x / y' * y') :: S2) hC ⟨hRm, hHR, hSX, hS, hA, hEx, hL, ⟨_, _, rfl, rfl, hSt⟩, hCl⟩)
theorem Go.lconst {sc : Nat × (Nat → Int32)} {cl rd : Bool} {d bc bs : Nat} {y : MD} {pc : Nat} {ls st : List AV} {h : AH} {Q : GO → AH → Prop} {n : Fin 2} {v : Int64} (hd : decode y.2.1 pc = .ok (.lconst n, 1)) (hv : Int64.ofNat (n : Nat) = v) (k : Go sc cl rd d bc bs y (pc + 1) ls (vL v :: st) h Q) : Go sc cl rd d bc bs y pc ls st h Q := by
  intro p l e R s m args below meth c H locs cells slots mc ms D aC A ad ad0 n0 L S hC hDy
  obtain ⟨hx, hb, hml, hr, hown, hts, hlocks, hnm, hex, hK, hKa, hNc, hfl, hmH⟩ := id hC
  obtain ⟨hRm, hHR, hSX, hS, hA, hEx, hL, hSt, hCl⟩ := id hDy
  exact lv_lconst hx hb hd hv (k p l e R s m args below meth c H locs cells slots mc ms D aC A ad ad0 n0 L (.long v :: S) hC ⟨hRm, hHR, hSX, hS, hA, hEx, hL, ⟨_, _, rfl, rfl, hSt⟩, hCl⟩)
/-! outcomes -/
def PV (P : Int32 → AH → Prop) : GO → AH → Prop := fun g h' => ∃ v, g = .inl (some (vI v)) ∧ P v h'
def PN (P : AH → Prop) : GO → AH → Prop := fun g h' => g = .inl none ∧ P h'
theorem Go.cVp {sc : Nat × (Nat → Int32)} {cl rd : Bool} {d2 bc bs : Nat} {y : MD} {pc : Nat} {ls st stk ls2 : List AV} {h : AH} {Q : GO → AH → Prop} (y2 : MD) (vs : List AV) {k i idx : Nat} (hd : decode y.2.1 pc = .ok (.invokevirtual idx, 3)) (hvw : ma_VW y.1.cls idx y2 k vs.length) (hk : k < 90) (hs : vs.reverse ++ vO k i :: st = stk) (hl2 : (vO k i :: vs) ++ List.replicate (y2.2.2.1 - (vs.length + 1)) vU = ls2) (hN : vs.length + 1 ≤ y2.2.2.1) (hnl : vs.all ma_nlb = true) (h8 : st.length ≤ 4) {P : Int32 → AH → Prop} (G2 : Go sc true false d2 0 0 y2 0 ls2 [] h (PV P)) (kk : ∀ v h1, P v h1 → Go sc false rd (d2 + 1) bc bs y (pc + 3) ls (vI v :: st) h1 Q) : Go sc cl rd (d2 + 1) bc bs y pc ls stk h Q :=
  Go.callV (bc2 := 0) (bs2 := 0) (rd2 := false) false y2 vs hd hvw hk hs hl2 hN (ma_nls hnl) h8 (fun hc => nomatch hc) G2 (fun _ hq => by obtain ⟨_, e1, _⟩ := hq; cases e1) (fun v' h1 hq => by obtain ⟨v, e1, e2⟩ := hq; cases e1; exact kk v h1 e2) (fun _ _ hq => by obtain ⟨_, e1, _⟩ := hq; cases e1)
theorem Go.cVn {sc : Nat × (Nat → Int32)} {cl rd : Bool} {d2 bc bs : Nat} {y : MD} {pc : Nat} {ls st stk ls2 : List AV} {h : AH} {Q : GO → AH → Prop} (y2 : MD) (vs : List AV) {k i idx : Nat} (hd : decode y.2.1 pc = .ok (.invokevirtual idx, 3)) (hvw : ma_VW y.1.cls idx y2 k vs.length) (hk : k < 90) (hs : vs.reverse ++ vO k i :: st = stk) (hl2 : (vO k i :: vs) ++ List.replicate (y2.2.2.1 - (vs.length + 1)) vU = ls2) (hN : vs.length + 1 ≤ y2.2.2.1) (hnl : vs.all ma_nlb = true) (h8 : st.length ≤ 4) {P : AH → Prop} (G2 : Go sc true false d2 0 0 y2 0 ls2 [] h (PN P)) (kk : ∀ h1, P h1 → Go sc false rd (d2 + 1) bc bs y (pc + 3) ls st h1 Q) : Go sc cl rd (d2 + 1) bc bs y pc ls stk h Q :=
  Go.callV (bc2 := 0) (bs2 := 0) (rd2 := false) false y2 vs hd hvw hk hs hl2 hN (ma_nls hnl) h8 (fun hc => nomatch hc) G2 (fun h1 hq => kk h1 hq.2) (fun _ _ hq => by cases hq.1) (fun _ _ hq => by cases hq.1)
theorem Go.cSp {sc : Nat × (Nat → Int32)} {cl rd : Bool} {d2 bc bs : Nat} {y : MD} {pc : Nat} {ls st stk ls2 : List AV} {h : AH} {Q : GO → AH → Prop} (y2 : MD) (vs : List AV) {idx : Nat} (hd : decode y.2.1 pc = .ok (.invokestatic idx, 3)) (hvw : ma_SW y.1.cls idx y2 vs.length) (hs : vs.reverse ++ st = stk) (hl2 : vs ++ List.replicate (y2.2.2.1 - vs.length) vU = ls2) (hN : vs.length ≤ y2.2.2.1) (hnl : vs.all ma_nlb = true) (h8 : st.length ≤ 4) {P : Int32 → AH → Prop} (G2 : Go sc true false d2 0 0 y2 0 ls2 [] h (PV P)) (kk : ∀ v h1, P v h1 → Go sc false rd (d2 + 1) bc bs y (pc + 3) ls (vI v :: st) h1 Q) : Go sc cl rd (d2 + 1) bc bs y pc ls stk h Q :=
  Go.callS (bc2 := 0) (bs2 := 0) (rd2 := false) false y2 vs hd hvw hs hl2 hN (ma_nls hnl) h8 (fun hc => nomatch hc) G2 (fun _ hq => by obtain ⟨_, e1, _⟩ := hq; cases e1) (fun v' h1 hq => by obtain ⟨v, e1, e2⟩ := hq; cases e1; exact kk v h1 e2) (fun _ _ hq => by obtain ⟨_, e1, _⟩ := hq; cases e1)
theorem Go.cSn {sc : Nat × (Nat → Int32)} {cl rd : Bool} {d2 bc bs : Nat} {y : MD} {pc : Nat} {ls st stk ls2 : List AV} {h : AH} {Q : GO → AH → Prop} (y2 : MD) (vs : List AV) {idx : Nat} (hd : decode y.2.1 pc = .ok (.invokestatic idx, 3)) (hvw : ma_SW y.1.cls idx y2 vs.length) (hs : vs.reverse ++ st = stk) (hl2 : vs ++ List.replicate (y2.2.2.1 - vs.length) vU = ls2) (hN : vs.length ≤ y2.2.2.1) (hnl : vs.all ma_nlb = true) (h8 : st.length ≤ 4) {P : AH → Prop} (G2 : Go sc true false d2 0 0 y2 0 ls2 [] h (PN P)) (kk : ∀ h1, P h1 → Go sc false rd (d2 + 1) bc bs y (pc + 3) ls st h1 Q) : Go sc cl rd (d2 + 1) bc bs y pc ls stk h Q :=
  Go.callS (bc2 := 0) (bs2 := 0) (rd2 := false) false y2 vs hd hvw hs hl2 hN (ma_nls hnl) h8 (fun hc => nomatch hc) G2 (fun h1 hq => kk h1 hq.2) (fun _ _ hq => by cases hq.1) (fun _ _ hq => by cases hq.1)
def rP (P : Int32 → Prop) (h : AH) : GO → AH → Prop := PV (fun v h' => P v ∧ h' = h)
theorem Go.cVr {sc : Nat × (Nat → Int32)} {cl rd : Bool} {d2 bc bs : Nat} {y : MD} {pc : Nat} {ls st stk ls2 : List AV} {h : AH} {Q : GO → AH → Prop} (y2 : MD) (vs : List AV) {k i idx : Nat} (hd : decode y.2.1 pc = .ok (.invokevirtual idx, 3)) (hvw : ma_VW y.1.cls idx y2 k vs.length) (hk : k < 90) (hs : vs.reverse ++ vO k i :: st = stk) (hl2 : (vO k i :: vs) ++ List.replicate (y2.2.2.1 - (vs.length + 1)) vU = ls2) (hN : vs.length + 1 ≤ y2.2.2.1) (hnl : vs.all ma_nlb = true) (h8 : st.length ≤ 4) {P : Int32 → Prop} (G2 : Go sc true false d2 0 0 y2 0 ls2 [] h (rP P h)) (kk : ∀ v, P v → Go sc false rd (d2 + 1) bc bs y (pc + 3) ls (vI v :: st) h Q) : Go sc cl rd (d2 + 1) bc bs y pc ls stk h Q :=
  Go.cVp y2 vs hd hvw hk hs hl2 hN hnl h8 G2 (fun v h1 e => by obtain ⟨e1, e2⟩ := e; cases e2; exact kk v e1)
theorem Go.cVo {sc : Nat × (Nat → Int32)} {cl rd : Bool} {d2 bc bs : Nat} {y : MD} {pc : Nat} {ls st stk ls2 : List AV} {h : AH} {Q : GO → AH → Prop} (y2 : MD) (vs : List AV) {k i idx : Nat} (hd : decode y.2.1 pc = .ok (.invokevirtual idx, 3)) (hvw : ma_VW y.1.cls idx y2 k vs.length) (hk : k < 90) (hs : vs.reverse ++ vO k i :: st = stk) (hl2 : (vO k i :: vs) ++ List.replicate (y2.2.2.1 - (vs.length + 1)) vU = ls2) (hN : vs.length + 1 ≤ y2.2.2.1) (hnl : vs.all ma_nlb = true) (h8 : st.length ≤ 4) {P : Int32 → Prop} (G2 : Go sc true true d2 0 0 y2 0 ls2 [] h (rP P h)) (kk : ∀ v, P v → Go sc cl rd (d2 + 1) bc bs y (pc + 3) ls (vI v :: st) h Q) : Go sc cl rd (d2 + 1) bc bs y pc ls stk h Q :=
  Go.callV (bc2 := 0) (bs2 := 0) (rd2 := true) cl y2 vs hd hvw hk hs hl2 hN (ma_nls hnl) h8 (fun hc => ⟨hc, rfl, fun _ _ hq => by obtain ⟨_, _, _, e⟩ := hq; exact e⟩) G2 (fun _ hq => by obtain ⟨_, e1, _⟩ := hq; cases e1) (fun v' h1 hq => by obtain ⟨v, e1, e2, e3⟩ := hq; cases e1; cases e3; exact kk v e2) (fun _ _ hq => by obtain ⟨_, e1, _⟩ := hq; cases e1)
theorem Go.cSr {sc : Nat × (Nat → Int32)} {cl rd : Bool} {d2 bc bs : Nat} {y : MD} {pc : Nat} {ls st stk ls2 : List AV} {h : AH} {Q : GO → AH → Prop} (y2 : MD) (vs : List AV) {idx : Nat} (hd : decode y.2.1 pc = .ok (.invokestatic idx, 3)) (hvw : ma_SW y.1.cls idx y2 vs.length) (hs : vs.reverse ++ st = stk) (hl2 : vs ++ List.replicate (y2.2.2.1 - vs.length) vU = ls2) (hN : vs.length ≤ y2.2.2.1) (hnl : vs.all ma_nlb = true) (h8 : st.length ≤ 4) {P : Int32 → Prop} (G2 : Go sc true false d2 0 0 y2 0 ls2 [] h (rP P h)) (kk : ∀ v, P v → Go sc false rd (d2 + 1) bc bs y (pc + 3) ls (vI v :: st) h Q) : Go sc cl rd (d2 + 1) bc bs y pc ls stk h Q :=
  Go.cSp y2 vs hd hvw hs hl2 hN hnl h8 G2 (fun v h1 e => by obtain ⟨e1, e2⟩ := e; cases e2; exact kk v e1)
theorem Go.cSo {sc : Nat × (Nat → Int32)} {cl rd : Bool} {d2 bc bs : Nat} {y : MD} {pc : Nat} {ls st stk ls2 : List AV} {h : AH} {Q : GO → AH → Prop} (y2 : MD) (vs : List AV) {idx : Nat} (hd : decode y.2.1 pc = .ok (.invokestatic idx, 3)) (hvw : ma_SW y.1.cls idx y2 vs.length) (hs : vs.reverse ++ st = stk) (hl2 : vs ++ List.replicate (y2.2.2.1 - vs.length) vU = ls2) (hN : vs.length ≤ y2.2.2.1) (hnl : vs.all ma_nlb = true) (h8 : st.length ≤ 4) {P : Int32 → Prop} (G2 : Go sc true true d2 0 0 y2 0 ls2 [] h (rP P h)) (kk : ∀ v, P v → Go sc cl rd (d2 + 1) bc bs y (pc + 3) ls (vI v :: st) h Q) : Go sc cl rd (d2 + 1) bc bs y pc ls stk h Q :=
  Go.callS (bc2 := 0) (bs2 := 0) (rd2 := true) cl y2 vs hd hvw hs hl2 hN (ma_nls hnl) h8 (fun hc => ⟨hc, rfl, fun _ _ hq => by obtain ⟨_, _, _, e⟩ := hq; exact e⟩) G2 (fun _ hq => by obtain ⟨_, e1, _⟩ := hq; cases e1) (fun v' h1 hq => by obtain ⟨v, e1, e2, e3⟩ := hq; cases e1; cases e3; exact kk v e2) (fun _ _ hq => by obtain ⟨_, e1, _⟩ := hq; cases e1)
theorem Go.cVf {sc : Nat × (Nat → Int32)} {cl rd : Bool} {d2 bc bs : Nat} {y : MD} {pc : Nat} {ls st stk ls2 : List AV} {h : AH} {Q : GO → AH → Prop} (y2 : MD) (vs : List AV) {k i idx : Nat} (hd : decode y.2.1 pc = .ok (.invokevirtual idx, 3)) (hvw : ma_VW y.1.cls idx y2 k vs.length) (hk : k < 90) (hs : vs.reverse ++ vO k i :: st = stk) (hl2 : (vO k i :: vs) ++ List.replicate (y2.2.2.1 - (vs.length + 1)) vU = ls2) (hN : vs.length + 1 ≤ y2.2.2.1) (hnl : vs.all ma_nlb = true) (h8 : st.length ≤ 4) {h2 : AH} (G2 : Go sc true false d2 0 0 y2 0 ls2 [] h (rN h2)) (kk : Go sc false rd (d2 + 1) bc bs y (pc + 3) ls st h2 Q) : Go sc cl rd (d2 + 1) bc bs y pc ls stk h Q :=
  Go.callVn y2 vs hd hvw hk hs hl2 hN hnl h8 G2 kk
theorem Go.cVv {sc : Nat × (Nat → Int32)} {cl rd : Bool} {d2 bc bs : Nat} {y : MD} {pc : Nat} {ls st stk ls2 : List AV} {h : AH} {Q : GO → AH → Prop} (y2 : MD) (vs : List AV) {k i idx : Nat} (hd : decode y.2.1 pc = .ok (.invokevirtual idx, 3)) (hvw : ma_VW y.1.cls idx y2 k vs.length) (hk : k < 90) (hs : vs.reverse ++ vO k i :: st = stk) (hl2 : (vO k i :: vs) ++ List.replicate (y2.2.2.1 - (vs.length + 1)) vU = ls2) (hN : vs.length + 1 ≤ y2.2.2.1) (hnl : vs.all ma_nlb = true) (h8 : st.length ≤ 4) {v : Int32} (G2 : Go sc true true d2 0 0 y2 0 ls2 [] h (rV v h)) (kk : ∀ v2, v2 = v → Go sc cl rd (d2 + 1) bc bs y (pc + 3) ls (vI v2 :: st) h Q) : Go sc cl rd (d2 + 1) bc bs y pc ls stk h Q :=
  Go.callVr y2 vs hd hvw hk hs hl2 hN hnl h8 G2 (kk v rfl)
/-- it reads alone, and may throw -/
def rPT (P : Int32 → Prop) (kx : Nat) (h : AH) : GO → AH → Prop := fun g h' => h' = h ∧ ((∃ v, P v ∧ g = .inl (some (vI v))) ∨ g = .inr kx)
theorem Go.cVt {sc : Nat × (Nat → Int32)} {cl rd : Bool} {d2 bc bs : Nat} {y : MD} {pc : Nat} {ls st stk ls2 : List AV} {h : AH} {Q : GO → AH → Prop} (y2 : MD) (vs : List AV) {k i idx : Nat} (hd : decode y.2.1 pc = .ok (.invokevirtual idx, 3)) (hvw : ma_VW y.1.cls idx y2 k vs.length) (hk : k < 90) (hs : vs.reverse ++ vO k i :: st = stk) (hl2 : (vO k i :: vs) ++ List.replicate (y2.2.2.1 - (vs.length + 1)) vU = ls2) (hN : vs.length + 1 ≤ y2.2.2.1) (hnl : vs.all ma_nlb = true) (h8 : st.length ≤ 4) {P : Int32 → Prop} {kx : Nat} (hno : (tableOf y.2.2.2.2).all (fun x => !covers x pc) = true) (hrd : rd = true → cl = true) (G2 : Go sc true true d2 1 6 y2 0 ls2 [] h (rPT P kx h)) (kk : ∀ v, P v → Go sc cl rd (d2 + 1) bc bs y (pc + 3) ls (vI v :: st) h Q) (kq : Q (.inr kx) h) : Go sc cl rd (d2 + 1) (bc + 1) (bs + 6) y pc ls stk h Q :=
  Go.callV (bc2 := 1) (bs2 := 6) (rd2 := true) cl y2 vs hd hvw hk hs hl2 hN (ma_nls hnl) h8 (fun hc => ⟨hc, rfl, fun _ _ hq => hq.1⟩) G2 (fun _ hq => by obtain ⟨-, ⟨_, -, e3⟩ | e3⟩ := hq <;> cases e3) (fun v' h1 hq => by
    obtain ⟨e1, ⟨v, e2, e3⟩ | e3⟩ := hq
    · cases e1; cases e3; exact kk v e2
    · cases e3) (fun k' h1 hq => by
    obtain ⟨e1, ⟨_, -, e3⟩ | e3⟩ := hq
    · cases e3
    · cases e1; cases e3; exact Or.inl ⟨hno, hrd, kq⟩)
/-- how a call of the book ends: with a number (or nothing), or with an exception of these kinds, and then all is as it was -/
def OB (Kp : AH → Prop) (h : AH) (ks : List Nat) : GO → AH → Prop := fun g h' => (∃ v, g = .inl (some (vI v)) ∧ Kp h') ∨ (∃ k, k ∈ ks ∧ g = .inr k ∧ h' = h)
def ON (Kp : AH → Prop) (h : AH) (ks : List Nat) : GO → AH → Prop := fun g h' => (g = .inl none ∧ Kp h') ∨ (∃ k, k ∈ ks ∧ g = .inr k ∧ h' = h)
/-! natural numbers in ints -/
theorem nI_inc (n : Nat) : nI n + Int32.ofInt 1 = nI (n + 1) := by
  rw [show Int32.ofInt 1 = nI 1 from by decide]; exact nI_add n 1
theorem nI_inc5 (n : Nat) : nI n + Int32.ofInt 5 = nI (n + 5) := by
  rw [show Int32.ofInt 5 = nI 5 from by decide]; exact nI_add n 5
theorem nI_dec {n : Nat} (h : 0 < n) : nI n + Int32.ofInt (-1) = nI (n - 1) := by
  rw [show Int32.ofInt (-1) = (-1 : Int32) from by decide]; exact sb_m1 h
theorem nI_nz {n : Nat} (h : 0 < n ∧ n < 2 ^ 31) : ¬ nI n = 0 := nI_ne0 h.1 h.2
theorem nI_or (a b : Nat) : nI a ||| nI b = nI (a ||| b) := by
  apply Int32.toBitVec_inj.mp
  show BitVec.ofNat 32 a ||| BitVec.ofNat 32 b = BitVec.ofNat 32 (a ||| b)
  rw [BitVec.ofNat_or]
theorem nI_and (a b : Nat) : nI a &&& nI b = nI (a &&& b) := by
  apply Int32.toBitVec_inj.mp
  show BitVec.ofNat 32 a &&& BitVec.ofNat 32 b = BitVec.ofNat 32 (a &&& b)
  rw [BitVec.ofNat_and]
theorem nI_31 : ∀ i, i < 32 → ((nI i &&& 31).toBitVec.smod 32).toNat = i := by decide +kernel
theorem nI_shr {a i : Nat} (ha : a < 2 ^ 31) (hi : i < 32) : nI a >>> (nI i &&& 31) = nI (a / 2 ^ i) := pk_shrN ha _ i (nI_31 i hi)
theorem nI_shl {i : Nat} (hi : i < 31) : nI 1 <<< (nI i &&& 31) = nI (2 ^ i) := by
  have h := pk_shlN (n := 1) (nI i &&& 31) i (nI_31 i (by omega)) (by rw [Nat.one_mul]; exact Nat.pow_lt_pow_right (by decide) (by omega))
  rw [Nat.one_mul] at h
  exact h
theorem nI_an1 {a : Nat} (ha : a < 2 ^ 31) : nI a &&& nI 1 = nI (a % 2) := pk_andN (by omega) 1 (by decide)
theorem tle {a b : Nat} (q : nI a ≤ nI b) (ha : a < 2 ^ 31) (hb : b < 2 ^ 31) : a ≤ b := (nI_leI ha hb).mp q
theorem tnle {a b : Nat} (q : ¬ nI a ≤ nI b) (ha : a < 2 ^ 31) (hb : b < 2 ^ 31) : b < a := Nat.not_le.mp (fun z => q ((nI_leI ha hb).mpr z))
theorem tlt {a b : Nat} (q : nI a < nI b) (ha : a < 2 ^ 31) (hb : b < 2 ^ 31) : a < b := (nI_ltI ha hb).mp q
theorem tnlt {a b : Nat} (q : ¬ nI a < nI b) (ha : a < 2 ^ 31) (hb : b < 2 ^ 31) : b ≤ a := Nat.not_lt.mp (fun z => q ((nI_ltI ha hb).mpr z))
theorem teq {a b : Nat} (q : nI a = nI b) (ha : a < 2 ^ 31) (hb : b < 2 ^ 31) : a = b := (nI_eq ha hb).mp q
theorem tne {a b : Nat} (q : ¬ nI a = nI b) (ha : a < 2 ^ 31) (hb : b < 2 ^ 31) : a ≠ b := fun z => q ((nI_eq ha hb).mpr z)
theorem zeq {a : Nat} (q : nI a = 0) (ha : a < 2 ^ 31) : a = 0 := teq (b := 0) q ha (by decide)
theorem zne {a : Nat} (q : ¬ nI a = 0) (ha : a < 2 ^ 31) : a ≠ 0 := tne (b := 0) q ha (by decide)
theorem zgt {a : Nat} (q : 0 < nI a) (ha : a < 2 ^ 31) : 0 < a := tlt (a := 0) q (by decide) ha
theorem zngt {a : Nat} (q : ¬ 0 < nI a) (ha : a < 2 ^ 31) : a = 0 := Nat.le_zero.mp (tnlt (a := 0) q (by decide) ha)
theorem zle {a : Nat} (q : nI a ≤ 0) (ha : a < 2 ^ 31) : a = 0 := Nat.le_zero.mp (tle (b := 0) q ha (by decide))
theorem znle {a : Nat} (q : ¬ nI a ≤ 0) (ha : a < 2 ^ 31) : 0 < a := tnle (b := 0) q ha (by decide)
theorem ma_up_ne {α : Type} {f : Nat → Nat → Nat → α} {c i k c' i' k' : Nat} {v : α} (h : c' ≠ c ∨ i' ≠ i ∨ k' ≠ k) : ma_up f c i k v c' i' k' = f c' i' k' := by
  unfold ma_up
  rw [if_neg]
  rintro ⟨h1, h2, h3⟩
  rcases h with h | h | h
  · exact h h1
  · exact h h2
  · exact h h3
theorem ma_up_cases {α : Type} {f : Nat → Nat → Nat → α} {c i k k' : Nat} {v : α} (P : α → Prop) (h1 : k' = k → P v) (h2 : k' ≠ k → P (f c i k')) : P (ma_up f c i k v c i k') := by
  by_cases h : k' = k
  · subst h; rw [ma_up_self]; exact h1 rfl
  · rw [ma_up_ne (Or.inr (Or.inr h))]; exact h2 h
/-- a number below n -/
def inR (n : Nat) (x : Int32) : Prop := ∃ j : Nat, j < n ∧ x = nI j
/-- a door, or none -/
def inD (x : Int32) : Prop := x = -1 ∨ inR 4 x
theorem or32 : ∀ s, s < 32 → ∀ t, t < 5 → s ||| 2 ^ t < 32 := by decide +kernel
/-- one less, from 0 on: a number that goes down -/
def im (c : Nat) : Int32 := nI c + Int32.ofInt (-1)
theorem im_0 : im 0 = -1 := by decide
theorem im_s (c : Nat) : im (c + 1) = nI c := nI_dec (Nat.succ_pos c)
theorem im_e (c : Nat) : nI c - nI 1 = im c := by
  unfold im
  rw [show Int32.ofInt (-1) = -nI 1 from by decide, Int32.sub_eq_add_neg]
theorem and_bit : ∀ s, s < 32 → ∀ t, t < 5 → s &&& 2 ^ t = 0 → s / 2 ^ t % 2 = 0 := by decide +kernel
theorem p2_5 : ∀ t, t < 5 → 2 ^ t < 32 := by decide
theorem sw7 (x : Int32) : (x.toInt < 0 ∨ 6 < x.toInt) ∨ x = 0 ∨ x = 1 ∨ x = 2 ∨ x = 3 ∨ x = 4 ∨ x = 5 ∨ x = 6 := by
  by_cases h : x.toInt < 0 ∨ 6 < x.toInt
  · exact Or.inl h
  · right
    have e : x.toInt = 0 ∨ x.toInt = 1 ∨ x.toInt = 2 ∨ x.toInt = 3 ∨ x.toInt = 4 ∨ x.toInt = 5 ∨ x.toInt = 6 := by omega
    rcases e with e | e | e | e | e | e | e
    · exact Or.inl (Int32.toInt_inj.mp e)
    · exact Or.inr (Or.inl (Int32.toInt_inj.mp e))
    · exact Or.inr (Or.inr (Or.inl (Int32.toInt_inj.mp e)))
    · exact Or.inr (Or.inr (Or.inr (Or.inl (Int32.toInt_inj.mp e))))
    · exact Or.inr (Or.inr (Or.inr (Or.inr (Or.inl (Int32.toInt_inj.mp e)))))
    · exact Or.inr (Or.inr (Or.inr (Or.inr (Or.inr (Or.inl (Int32.toInt_inj.mp e))))))
    · exact Or.inr (Or.inr (Or.inr (Or.inr (Or.inr (Or.inr ((Int32.toInt_inj.mp e)))))))
theorem sw18 (x : Int32) : (x.toInt < 0 ∨ 17 < x.toInt) ∨ x = 0 ∨ x = 1 ∨ x = 2 ∨ x = 3 ∨ x = 4 ∨ x = 5 ∨ x = 6 ∨ x = 7 ∨ x = 8 ∨ x = 9 ∨ x = 10 ∨ x = 11 ∨ x = 12 ∨ x = 13 ∨ x = 14 ∨ x = 15 ∨ x = 16 ∨ x = 17 := by
  by_cases h : x.toInt < 0 ∨ 17 < x.toInt
  · exact Or.inl h
  · right
    have e : x.toInt = 0 ∨ x.toInt = 1 ∨ x.toInt = 2 ∨ x.toInt = 3 ∨ x.toInt = 4 ∨ x.toInt = 5 ∨ x.toInt = 6 ∨ x.toInt = 7 ∨ x.toInt = 8 ∨ x.toInt = 9 ∨ x.toInt = 10 ∨ x.toInt = 11 ∨ x.toInt = 12 ∨ x.toInt = 13 ∨ x.toInt = 14 ∨ x.toInt = 15 ∨ x.toInt = 16 ∨ x.toInt = 17 := by omega
    rcases e with e | e | e | e | e | e | e | e | e | e | e | e | e | e | e | e | e | e
    · exact Or.inl (Int32.toInt_inj.mp e)
    · exact Or.inr (Or.inl (Int32.toInt_inj.mp e))
    · exact Or.inr (Or.inr (Or.inl (Int32.toInt_inj.mp e)))
    · exact Or.inr (Or.inr (Or.inr (Or.inl (Int32.toInt_inj.mp e))))
    · exact Or.inr (Or.inr (Or.inr (Or.inr (Or.inl (Int32.toInt_inj.mp e)))))
    · exact Or.inr (Or.inr (Or.inr (Or.inr (Or.inr (Or.inl (Int32.toInt_inj.mp e))))))
    · exact Or.inr (Or.inr (Or.inr (Or.inr (Or.inr (Or.inr (Or.inl (Int32.toInt_inj.mp e)))))))
    · exact Or.inr (Or.inr (Or.inr (Or.inr (Or.inr (Or.inr (Or.inr (Or.inl (Int32.toInt_inj.mp e))))))))
    · exact Or.inr (Or.inr (Or.inr (Or.inr (Or.inr (Or.inr (Or.inr (Or.inr (Or.inl (Int32.toInt_inj.mp e)))))))))
    · exact Or.inr (Or.inr (Or.inr (Or.inr (Or.inr (Or.inr (Or.inr (Or.inr (Or.inr (Or.inl (Int32.toInt_inj.mp e))))))))))
    · exact Or.inr (Or.inr (Or.inr (Or.inr (Or.inr (Or.inr (Or.inr (Or.inr (Or.inr (Or.inr (Or.inl (Int32.toInt_inj.mp e)))))))))))
    · exact Or.inr (Or.inr (Or.inr (Or.inr (Or.inr (Or.inr (Or.inr (Or.inr (Or.inr (Or.inr (Or.inr (Or.inl (Int32.toInt_inj.mp e))))))))))))
    · exact Or.inr (Or.inr (Or.inr (Or.inr (Or.inr (Or.inr (Or.inr (Or.inr (Or.inr (Or.inr (Or.inr (Or.inr (Or.inl (Int32.toInt_inj.mp e)))))))))))))
    · exact Or.inr (Or.inr (Or.inr (Or.inr (Or.inr (Or.inr (Or.inr (Or.inr (Or.inr (Or.inr (Or.inr (Or.inr (Or.inr (Or.inl (Int32.toInt_inj.mp e))))))))))))))
    · exact Or.inr (Or.inr (Or.inr (Or.inr (Or.inr (Or.inr (Or.inr (Or.inr (Or.inr (Or.inr (Or.inr (Or.inr (Or.inr (Or.inr (Or.inl (Int32.toInt_inj.mp e)))))))))))))))
    · exact Or.inr (Or.inr (Or.inr (Or.inr (Or.inr (Or.inr (Or.inr (Or.inr (Or.inr (Or.inr (Or.inr (Or.inr (Or.inr (Or.inr (Or.inr (Or.inl (Int32.toInt_inj.mp e))))))))))))))))
    · exact Or.inr (Or.inr (Or.inr (Or.inr (Or.inr (Or.inr (Or.inr (Or.inr (Or.inr (Or.inr (Or.inr (Or.inr (Or.inr (Or.inr (Or.inr (Or.inr (Or.inl (Int32.toInt_inj.mp e)))))))))))))))))
    · exact Or.inr (Or.inr (Or.inr (Or.inr (Or.inr (Or.inr (Or.inr (Or.inr (Or.inr (Or.inr (Or.inr (Or.inr (Or.inr (Or.inr (Or.inr (Or.inr (Or.inr ((Int32.toInt_inj.mp e))))))))))))))))))
theorem up_self {h : AH} {c i k : Nat} {v : Int32} : ((ma_up h.1 c i k v, h.2) : AH).1 c i k = v := ma_up_self h.1 c i k v
theorem up_ne {h : AH} {c i k c' i' k' : Nat} {v : Int32} (hn : c' ≠ c ∨ i' ≠ i ∨ k' ≠ k) : ((ma_up h.1 c i k v, h.2) : AH).1 c' i' k' = h.1 c' i' k' := ma_up_ne (f := h.1) hn
theorem up_ne2 {h : AH} {c i k c2 i2 k2 c' i' k' : Nat} {v v2 : Int32} (hn : c' ≠ c ∨ i' ≠ i ∨ k' ≠ k) (hn2 : c' ≠ c2 ∨ i' ≠ i2 ∨ k' ≠ k2) : ((ma_up (ma_up h.1 c i k v) c2 i2 k2 v2, h.2) : AH).1 c' i' k' = h.1 c' i' k' := (ma_up_ne (f := ma_up h.1 c i k v) hn2).trans (ma_up_ne (f := h.1) hn)
end
section
/-! THE REFERENCE: shape, invariant, writes -/
def SM (h : AH) : Prop := (h.2.1 5 0 3 = some (100, 15)) ∧ (h.2.2.2.1 100 15 = 4) ∧ (h.2.1 5 0 4 = some (100, 16)) ∧ (h.2.2.2.1 100 16 = 4) ∧ (h.2.1 5 0 5 = some (100, 17)) ∧ (h.2.2.2.1 100 17 = 4) ∧ (h.2.1 5 0 6 = some (102, 0)) ∧ (h.2.2.2.1 102 0 = 4) ∧ (h.2.1 5 0 7 = some (100, 18)) ∧ (h.2.2.2.1 100 18 = 4) ∧ (h.2.1 5 0 9 = some (100, 19)) ∧ (h.2.2.2.1 100 19 = 12) ∧ (h.2.1 5 0 10 = some (100, 20)) ∧ (h.2.2.2.1 100 20 = 12) ∧ (h.2.1 5 0 11 = some (100, 21)) ∧ (h.2.2.2.1 100 21 = 12) ∧ (h.2.1 5 0 12 = some (100, 22)) ∧ (h.2.2.2.1 100 22 = 12) ∧ (h.2.1 5 0 13 = some (100, 23)) ∧ (h.2.2.2.1 100 23 = 12) ∧ (h.2.1 5 0 14 = some (100, 24)) ∧ (h.2.2.2.1 100 24 = 12) ∧ (h.2.1 5 0 15 = some (100, 25)) ∧ (h.2.2.2.1 100 25 = 12) ∧ (h.2.1 5 0 16 = some (100, 26)) ∧ (h.2.2.2.1 100 26 = 12) ∧ (h.2.1 5 0 17 = some (100, 27)) ∧ (h.2.2.2.1 100 27 = 12) ∧ (h.2.1 5 0 18 = some (102, 1)) ∧ (h.2.2.2.1 102 1 = 12) ∧ (h.2.1 5 0 19 = some (102, 2)) ∧ (h.2.2.2.1 102 2 = 12) ∧ (h.2.1 5 0 23 = some (100, 28)) ∧ (h.2.2.2.1 100 28 = 12) ∧ (h.2.1 5 0 24 = some (100, 29)) ∧ (h.2.2.2.1 100 29 = 12) ∧ (h.2.1 5 0 25 = some (100, 30)) ∧ (h.2.2.2.1 100 30 = 12) ∧ (h.2.1 5 0 26 = some (100, 31)) ∧ (h.2.2.2.1 100 31 = 128) ∧ (h.2.1 5 0 27 = some (100, 32)) ∧ (h.2.2.2.1 100 32 = 640) ∧ (h.2.1 5 0 28 = some (100, 33)) ∧ (h.2.2.2.1 100 33 = 5) ∧ (h.2.1 5 0 29 = some (100, 34)) ∧ (h.2.2.2.1 100 34 = 4)
theorem SM.r_kinds {h : AH} (K : SM h) : h.2.1 5 0 3 = some (100, 15) := K.1
theorem SM.l_kinds {h : AH} (K : SM h) : h.2.2.2.1 100 15 = 4 := K.2.1
theorem SM.r_opens {h : AH} (K : SM h) : h.2.1 5 0 4 = some (100, 16) := K.2.2.1
theorem SM.l_opens {h : AH} (K : SM h) : h.2.2.2.1 100 16 = 4 := K.2.2.2.1
theorem SM.r_closes {h : AH} (K : SM h) : h.2.1 5 0 5 = some (100, 17) := K.2.2.2.2.1
theorem SM.l_closes {h : AH} (K : SM h) : h.2.2.2.1 100 17 = 4 := K.2.2.2.2.2.1
theorem SM.r_isOut {h : AH} (K : SM h) : h.2.1 5 0 6 = some (102, 0) := K.2.2.2.2.2.2.1
theorem SM.l_isOut {h : AH} (K : SM h) : h.2.2.2.1 102 0 = 4 := K.2.2.2.2.2.2.2.1
theorem SM.r_left {h : AH} (K : SM h) : h.2.1 5 0 7 = some (100, 18) := K.2.2.2.2.2.2.2.2.1
theorem SM.l_left {h : AH} (K : SM h) : h.2.2.2.1 100 18 = 4 := K.2.2.2.2.2.2.2.2.2.1
theorem SM.r_state {h : AH} (K : SM h) : h.2.1 5 0 9 = some (100, 19) := K.2.2.2.2.2.2.2.2.2.2.1
theorem SM.l_state {h : AH} (K : SM h) : h.2.2.2.1 100 19 = 12 := K.2.2.2.2.2.2.2.2.2.2.2.1
theorem SM.r_kind {h : AH} (K : SM h) : h.2.1 5 0 10 = some (100, 20) := K.2.2.2.2.2.2.2.2.2.2.2.2.1
theorem SM.l_kind {h : AH} (K : SM h) : h.2.2.2.1 100 20 = 12 := K.2.2.2.2.2.2.2.2.2.2.2.2.2.1
theorem SM.r_arrival {h : AH} (K : SM h) : h.2.1 5 0 11 = some (100, 21) := K.2.2.2.2.2.2.2.2.2.2.2.2.2.2.1
theorem SM.l_arrival {h : AH} (K : SM h) : h.2.2.2.1 100 21 = 12 := K.2.2.2.2.2.2.2.2.2.2.2.2.2.2.2.1
theorem SM.r_need {h : AH} (K : SM h) : h.2.1 5 0 12 = some (100, 22) := K.2.2.2.2.2.2.2.2.2.2.2.2.2.2.2.2.1
theorem SM.l_need {h : AH} (K : SM h) : h.2.2.2.1 100 22 = 12 := K.2.2.2.2.2.2.2.2.2.2.2.2.2.2.2.2.2.1
theorem SM.r_ranks {h : AH} (K : SM h) : h.2.1 5 0 13 = some (100, 23) := K.2.2.2.2.2.2.2.2.2.2.2.2.2.2.2.2.2.2.1
theorem SM.l_ranks {h : AH} (K : SM h) : h.2.2.2.1 100 23 = 12 := K.2.2.2.2.2.2.2.2.2.2.2.2.2.2.2.2.2.2.2.1
theorem SM.r_doorOf {h : AH} (K : SM h) : h.2.1 5 0 14 = some (100, 24) := K.2.2.2.2.2.2.2.2.2.2.2.2.2.2.2.2.2.2.2.2.1
theorem SM.l_doorOf {h : AH} (K : SM h) : h.2.2.2.1 100 24 = 12 := K.2.2.2.2.2.2.2.2.2.2.2.2.2.2.2.2.2.2.2.2.2.1
theorem SM.r_start {h : AH} (K : SM h) : h.2.1 5 0 15 = some (100, 25) := K.2.2.2.2.2.2.2.2.2.2.2.2.2.2.2.2.2.2.2.2.2.2.1
theorem SM.l_start {h : AH} (K : SM h) : h.2.2.2.1 100 25 = 12 := K.2.2.2.2.2.2.2.2.2.2.2.2.2.2.2.2.2.2.2.2.2.2.2.1
theorem SM.r_gone {h : AH} (K : SM h) : h.2.1 5 0 16 = some (100, 26) := K.2.2.2.2.2.2.2.2.2.2.2.2.2.2.2.2.2.2.2.2.2.2.2.2.1
theorem SM.l_gone {h : AH} (K : SM h) : h.2.2.2.1 100 26 = 12 := K.2.2.2.2.2.2.2.2.2.2.2.2.2.2.2.2.2.2.2.2.2.2.2.2.2.1
theorem SM.r_seals {h : AH} (K : SM h) : h.2.1 5 0 17 = some (100, 27) := K.2.2.2.2.2.2.2.2.2.2.2.2.2.2.2.2.2.2.2.2.2.2.2.2.2.2.1
theorem SM.l_seals {h : AH} (K : SM h) : h.2.2.2.1 100 27 = 12 := K.2.2.2.2.2.2.2.2.2.2.2.2.2.2.2.2.2.2.2.2.2.2.2.2.2.2.2.1
theorem SM.r_twice {h : AH} (K : SM h) : h.2.1 5 0 18 = some (102, 1) := K.2.2.2.2.2.2.2.2.2.2.2.2.2.2.2.2.2.2.2.2.2.2.2.2.2.2.2.2.1
theorem SM.l_twice {h : AH} (K : SM h) : h.2.2.2.1 102 1 = 12 := K.2.2.2.2.2.2.2.2.2.2.2.2.2.2.2.2.2.2.2.2.2.2.2.2.2.2.2.2.2.1
theorem SM.r_same {h : AH} (K : SM h) : h.2.1 5 0 19 = some (102, 2) := K.2.2.2.2.2.2.2.2.2.2.2.2.2.2.2.2.2.2.2.2.2.2.2.2.2.2.2.2.2.2.1
theorem SM.l_same {h : AH} (K : SM h) : h.2.2.2.1 102 2 = 12 := K.2.2.2.2.2.2.2.2.2.2.2.2.2.2.2.2.2.2.2.2.2.2.2.2.2.2.2.2.2.2.2.1
theorem SM.r_waiting {h : AH} (K : SM h) : h.2.1 5 0 23 = some (100, 28) := K.2.2.2.2.2.2.2.2.2.2.2.2.2.2.2.2.2.2.2.2.2.2.2.2.2.2.2.2.2.2.2.2.1
theorem SM.l_waiting {h : AH} (K : SM h) : h.2.2.2.1 100 28 = 12 := K.2.2.2.2.2.2.2.2.2.2.2.2.2.2.2.2.2.2.2.2.2.2.2.2.2.2.2.2.2.2.2.2.2.1
theorem SM.r_newDoor {h : AH} (K : SM h) : h.2.1 5 0 24 = some (100, 29) := K.2.2.2.2.2.2.2.2.2.2.2.2.2.2.2.2.2.2.2.2.2.2.2.2.2.2.2.2.2.2.2.2.2.2.1
theorem SM.l_newDoor {h : AH} (K : SM h) : h.2.2.2.1 100 29 = 12 := K.2.2.2.2.2.2.2.2.2.2.2.2.2.2.2.2.2.2.2.2.2.2.2.2.2.2.2.2.2.2.2.2.2.2.2.1
theorem SM.r_newStart {h : AH} (K : SM h) : h.2.1 5 0 25 = some (100, 30) := K.2.2.2.2.2.2.2.2.2.2.2.2.2.2.2.2.2.2.2.2.2.2.2.2.2.2.2.2.2.2.2.2.2.2.2.2.1
theorem SM.l_newStart {h : AH} (K : SM h) : h.2.2.2.1 100 30 = 12 := K.2.2.2.2.2.2.2.2.2.2.2.2.2.2.2.2.2.2.2.2.2.2.2.2.2.2.2.2.2.2.2.2.2.2.2.2.2.1
theorem SM.r_setCost {h : AH} (K : SM h) : h.2.1 5 0 26 = some (100, 31) := K.2.2.2.2.2.2.2.2.2.2.2.2.2.2.2.2.2.2.2.2.2.2.2.2.2.2.2.2.2.2.2.2.2.2.2.2.2.2.1
theorem SM.l_setCost {h : AH} (K : SM h) : h.2.2.2.1 100 31 = 128 := K.2.2.2.2.2.2.2.2.2.2.2.2.2.2.2.2.2.2.2.2.2.2.2.2.2.2.2.2.2.2.2.2.2.2.2.2.2.2.2.1
theorem SM.r_setStart {h : AH} (K : SM h) : h.2.1 5 0 27 = some (100, 32) := K.2.2.2.2.2.2.2.2.2.2.2.2.2.2.2.2.2.2.2.2.2.2.2.2.2.2.2.2.2.2.2.2.2.2.2.2.2.2.2.2.1
theorem SM.l_setStart {h : AH} (K : SM h) : h.2.2.2.1 100 32 = 640 := K.2.2.2.2.2.2.2.2.2.2.2.2.2.2.2.2.2.2.2.2.2.2.2.2.2.2.2.2.2.2.2.2.2.2.2.2.2.2.2.2.2.1
theorem SM.r_trial {h : AH} (K : SM h) : h.2.1 5 0 28 = some (100, 33) := K.2.2.2.2.2.2.2.2.2.2.2.2.2.2.2.2.2.2.2.2.2.2.2.2.2.2.2.2.2.2.2.2.2.2.2.2.2.2.2.2.2.2.1
theorem SM.l_trial {h : AH} (K : SM h) : h.2.2.2.1 100 33 = 5 := K.2.2.2.2.2.2.2.2.2.2.2.2.2.2.2.2.2.2.2.2.2.2.2.2.2.2.2.2.2.2.2.2.2.2.2.2.2.2.2.2.2.2.2.1
theorem SM.r_counts {h : AH} (K : SM h) : h.2.1 5 0 29 = some (100, 34) := K.2.2.2.2.2.2.2.2.2.2.2.2.2.2.2.2.2.2.2.2.2.2.2.2.2.2.2.2.2.2.2.2.2.2.2.2.2.2.2.2.2.2.2.2.1
theorem SM.l_counts {h : AH} (K : SM h) : h.2.2.2.1 100 34 = 4 := K.2.2.2.2.2.2.2.2.2.2.2.2.2.2.2.2.2.2.2.2.2.2.2.2.2.2.2.2.2.2.2.2.2.2.2.2.2.2.2.2.2.2.2.2.2
def FrR (h0 h : AH) : Prop := (∀ c i k, ¬ (c = 5 ∨ (c = 100 ∧ 15 ≤ i) ∨ c = 102) → h.1 c i k = h0.1 c i k) ∧ h.2 = h0.2
/-- G: doors, trucks, waiting ones; now, states, the waiting ones' numbers -/
abbrev GR : Type := (Nat × Nat × Nat) × Int32 × (Nat → Int32) × (Nat → Int32)
def KR (G : GR) (h0 h : AH) : Prop := (SM h) ∧ (h.1 5 0 1 = G.2.1) ∧ (h.1 5 0 2 = nI G.1.1) ∧ (G.1.1 ≤ 4) ∧ (h.1 5 0 8 = nI G.1.2.1) ∧ (G.1.2.1 ≤ 12) ∧ (h.1 5 0 22 = nI G.1.2.2) ∧ (G.1.2.2 ≤ 12) ∧ (∀ t, h.1 100 19 t = G.2.2.1 t) ∧ (∀ t, t < 12 → inR 4 (G.2.2.1 t)) ∧ (∀ t, t < 12 → G.1.2.1 ≤ t → G.2.2.1 t = 0) ∧ (∀ t, t < 12 → inD (h.1 100 24 t)) ∧ (∀ t, t < 12 → G.2.2.1 t = 1 → inR 4 (h.1 100 24 t)) ∧ (h.1 5 0 20 = 0 ∨ h.1 5 0 20 = 1) ∧ (∀ i, h.1 100 28 i = G.2.2.2 i) ∧ (∀ i, i < 12 → inR 12 (G.2.2.2 i)) ∧ (∀ i, i < 12 → inD (h.1 100 29 i)) ∧ (FrR h0 h)
theorem KR.sh {G : GR} {h0 h : AH} (K : KR G h0 h) : SM h := K.1
theorem KR.now {G : GR} {h0 h : AH} (K : KR G h0 h) : h.1 5 0 1 = G.2.1 := K.2.1
theorem KR.doors {G : GR} {h0 h : AH} (K : KR G h0 h) : h.1 5 0 2 = nI G.1.1 := K.2.2.1
theorem KR.doors_le {G : GR} {h0 h : AH} (K : KR G h0 h) : G.1.1 ≤ 4 := K.2.2.2.1
theorem KR.trucks {G : GR} {h0 h : AH} (K : KR G h0 h) : h.1 5 0 8 = nI G.1.2.1 := K.2.2.2.2.1
theorem KR.trucks_le {G : GR} {h0 h : AH} (K : KR G h0 h) : G.1.2.1 ≤ 12 := K.2.2.2.2.2.1
theorem KR.waits {G : GR} {h0 h : AH} (K : KR G h0 h) : h.1 5 0 22 = nI G.1.2.2 := K.2.2.2.2.2.2.1
theorem KR.waits_le {G : GR} {h0 h : AH} (K : KR G h0 h) : G.1.2.2 ≤ 12 := K.2.2.2.2.2.2.2.1
theorem KR.state {G : GR} {h0 h : AH} (K : KR G h0 h) : ∀ t, h.1 100 19 t = G.2.2.1 t := K.2.2.2.2.2.2.2.2.1
theorem KR.st4 {G : GR} {h0 h : AH} (K : KR G h0 h) : ∀ t, t < 12 → inR 4 (G.2.2.1 t) := K.2.2.2.2.2.2.2.2.2.1
theorem KR.fresh {G : GR} {h0 h : AH} (K : KR G h0 h) : ∀ t, t < 12 → G.1.2.1 ≤ t → G.2.2.1 t = 0 := K.2.2.2.2.2.2.2.2.2.2.1
theorem KR.doorOf {G : GR} {h0 h : AH} (K : KR G h0 h) : ∀ t, t < 12 → inD (h.1 100 24 t) := K.2.2.2.2.2.2.2.2.2.2.2.1
theorem KR.atd {G : GR} {h0 h : AH} (K : KR G h0 h) : ∀ t, t < 12 → G.2.2.1 t = 1 → inR 4 (h.1 100 24 t) := K.2.2.2.2.2.2.2.2.2.2.2.2.1
theorem KR.ex {G : GR} {h0 h : AH} (K : KR G h0 h) : h.1 5 0 20 = 0 ∨ h.1 5 0 20 = 1 := K.2.2.2.2.2.2.2.2.2.2.2.2.2.1
theorem KR.waiting {G : GR} {h0 h : AH} (K : KR G h0 h) : ∀ i, h.1 100 28 i = G.2.2.2 i := K.2.2.2.2.2.2.2.2.2.2.2.2.2.2.1
theorem KR.wt12 {G : GR} {h0 h : AH} (K : KR G h0 h) : ∀ i, i < 12 → inR 12 (G.2.2.2 i) := K.2.2.2.2.2.2.2.2.2.2.2.2.2.2.2.1
theorem KR.newDoor {G : GR} {h0 h : AH} (K : KR G h0 h) : ∀ i, i < 12 → inD (h.1 100 29 i) := K.2.2.2.2.2.2.2.2.2.2.2.2.2.2.2.2.1
theorem KR.fr {G : GR} {h0 h : AH} (K : KR G h0 h) : FrR h0 h := K.2.2.2.2.2.2.2.2.2.2.2.2.2.2.2.2.2
theorem KR.r_kinds {G : GR} {h0 h : AH} (K : KR G h0 h) : h.2.1 5 0 3 = some (100, 15) := K.sh.r_kinds
theorem KR.l_kinds {G : GR} {h0 h : AH} (K : KR G h0 h) : h.2.2.2.1 100 15 = 4 := K.sh.l_kinds
theorem KR.r_opens {G : GR} {h0 h : AH} (K : KR G h0 h) : h.2.1 5 0 4 = some (100, 16) := K.sh.r_opens
theorem KR.l_opens {G : GR} {h0 h : AH} (K : KR G h0 h) : h.2.2.2.1 100 16 = 4 := K.sh.l_opens
theorem KR.r_closes {G : GR} {h0 h : AH} (K : KR G h0 h) : h.2.1 5 0 5 = some (100, 17) := K.sh.r_closes
theorem KR.l_closes {G : GR} {h0 h : AH} (K : KR G h0 h) : h.2.2.2.1 100 17 = 4 := K.sh.l_closes
theorem KR.r_isOut {G : GR} {h0 h : AH} (K : KR G h0 h) : h.2.1 5 0 6 = some (102, 0) := K.sh.r_isOut
theorem KR.l_isOut {G : GR} {h0 h : AH} (K : KR G h0 h) : h.2.2.2.1 102 0 = 4 := K.sh.l_isOut
theorem KR.r_left {G : GR} {h0 h : AH} (K : KR G h0 h) : h.2.1 5 0 7 = some (100, 18) := K.sh.r_left
theorem KR.l_left {G : GR} {h0 h : AH} (K : KR G h0 h) : h.2.2.2.1 100 18 = 4 := K.sh.l_left
theorem KR.r_state {G : GR} {h0 h : AH} (K : KR G h0 h) : h.2.1 5 0 9 = some (100, 19) := K.sh.r_state
theorem KR.l_state {G : GR} {h0 h : AH} (K : KR G h0 h) : h.2.2.2.1 100 19 = 12 := K.sh.l_state
theorem KR.r_kind {G : GR} {h0 h : AH} (K : KR G h0 h) : h.2.1 5 0 10 = some (100, 20) := K.sh.r_kind
theorem KR.l_kind {G : GR} {h0 h : AH} (K : KR G h0 h) : h.2.2.2.1 100 20 = 12 := K.sh.l_kind
theorem KR.r_arrival {G : GR} {h0 h : AH} (K : KR G h0 h) : h.2.1 5 0 11 = some (100, 21) := K.sh.r_arrival
theorem KR.l_arrival {G : GR} {h0 h : AH} (K : KR G h0 h) : h.2.2.2.1 100 21 = 12 := K.sh.l_arrival
theorem KR.r_need {G : GR} {h0 h : AH} (K : KR G h0 h) : h.2.1 5 0 12 = some (100, 22) := K.sh.r_need
theorem KR.l_need {G : GR} {h0 h : AH} (K : KR G h0 h) : h.2.2.2.1 100 22 = 12 := K.sh.l_need
theorem KR.r_ranks {G : GR} {h0 h : AH} (K : KR G h0 h) : h.2.1 5 0 13 = some (100, 23) := K.sh.r_ranks
theorem KR.l_ranks {G : GR} {h0 h : AH} (K : KR G h0 h) : h.2.2.2.1 100 23 = 12 := K.sh.l_ranks
theorem KR.r_doorOf {G : GR} {h0 h : AH} (K : KR G h0 h) : h.2.1 5 0 14 = some (100, 24) := K.sh.r_doorOf
theorem KR.l_doorOf {G : GR} {h0 h : AH} (K : KR G h0 h) : h.2.2.2.1 100 24 = 12 := K.sh.l_doorOf
theorem KR.r_start {G : GR} {h0 h : AH} (K : KR G h0 h) : h.2.1 5 0 15 = some (100, 25) := K.sh.r_start
theorem KR.l_start {G : GR} {h0 h : AH} (K : KR G h0 h) : h.2.2.2.1 100 25 = 12 := K.sh.l_start
theorem KR.r_gone {G : GR} {h0 h : AH} (K : KR G h0 h) : h.2.1 5 0 16 = some (100, 26) := K.sh.r_gone
theorem KR.l_gone {G : GR} {h0 h : AH} (K : KR G h0 h) : h.2.2.2.1 100 26 = 12 := K.sh.l_gone
theorem KR.r_seals {G : GR} {h0 h : AH} (K : KR G h0 h) : h.2.1 5 0 17 = some (100, 27) := K.sh.r_seals
theorem KR.l_seals {G : GR} {h0 h : AH} (K : KR G h0 h) : h.2.2.2.1 100 27 = 12 := K.sh.l_seals
theorem KR.r_twice {G : GR} {h0 h : AH} (K : KR G h0 h) : h.2.1 5 0 18 = some (102, 1) := K.sh.r_twice
theorem KR.l_twice {G : GR} {h0 h : AH} (K : KR G h0 h) : h.2.2.2.1 102 1 = 12 := K.sh.l_twice
theorem KR.r_same {G : GR} {h0 h : AH} (K : KR G h0 h) : h.2.1 5 0 19 = some (102, 2) := K.sh.r_same
theorem KR.l_same {G : GR} {h0 h : AH} (K : KR G h0 h) : h.2.2.2.1 102 2 = 12 := K.sh.l_same
theorem KR.r_waiting {G : GR} {h0 h : AH} (K : KR G h0 h) : h.2.1 5 0 23 = some (100, 28) := K.sh.r_waiting
theorem KR.l_waiting {G : GR} {h0 h : AH} (K : KR G h0 h) : h.2.2.2.1 100 28 = 12 := K.sh.l_waiting
theorem KR.r_newDoor {G : GR} {h0 h : AH} (K : KR G h0 h) : h.2.1 5 0 24 = some (100, 29) := K.sh.r_newDoor
theorem KR.l_newDoor {G : GR} {h0 h : AH} (K : KR G h0 h) : h.2.2.2.1 100 29 = 12 := K.sh.l_newDoor
theorem KR.r_newStart {G : GR} {h0 h : AH} (K : KR G h0 h) : h.2.1 5 0 25 = some (100, 30) := K.sh.r_newStart
theorem KR.l_newStart {G : GR} {h0 h : AH} (K : KR G h0 h) : h.2.2.2.1 100 30 = 12 := K.sh.l_newStart
theorem KR.r_setCost {G : GR} {h0 h : AH} (K : KR G h0 h) : h.2.1 5 0 26 = some (100, 31) := K.sh.r_setCost
theorem KR.l_setCost {G : GR} {h0 h : AH} (K : KR G h0 h) : h.2.2.2.1 100 31 = 128 := K.sh.l_setCost
theorem KR.r_setStart {G : GR} {h0 h : AH} (K : KR G h0 h) : h.2.1 5 0 27 = some (100, 32) := K.sh.r_setStart
theorem KR.l_setStart {G : GR} {h0 h : AH} (K : KR G h0 h) : h.2.2.2.1 100 32 = 640 := K.sh.l_setStart
theorem KR.r_trial {G : GR} {h0 h : AH} (K : KR G h0 h) : h.2.1 5 0 28 = some (100, 33) := K.sh.r_trial
theorem KR.l_trial {G : GR} {h0 h : AH} (K : KR G h0 h) : h.2.2.2.1 100 33 = 5 := K.sh.l_trial
theorem KR.r_counts {G : GR} {h0 h : AH} (K : KR G h0 h) : h.2.1 5 0 29 = some (100, 34) := K.sh.r_counts
theorem KR.l_counts {G : GR} {h0 h : AH} (K : KR G h0 h) : h.2.2.2.1 100 34 = 4 := K.sh.l_counts
theorem FrR.rf {h : AH} : FrR h h := ⟨fun _ _ _ _ => rfl, rfl⟩
theorem FrR.up {h0 h : AH} {c i k : Nat} {v : Int32} (F : FrR h0 h) (ho : c = 5 ∨ (c = 100 ∧ 15 ≤ i) ∨ c = 102) : FrR h0 (ma_up h.1 c i k v, h.2) :=
  ⟨fun c' i' k' hn => by
    show ma_up h.1 c i k v c' i' k' = _
    rw [ma_up_ne (by omega)]
    exact F.1 c' i' k' hn, F.2⟩
theorem FrR.tr {h0 h1 h2 : AH} (F : FrR h0 h1) (F2 : FrR h1 h2) : FrR h0 h2 := ⟨fun c i k hn => (F2.1 c i k hn).trans (F.1 c i k hn), F2.2.trans F.2⟩
theorem KR.refr {G : GR} {h0 h0' h : AH} (K : KR G h0 h) (F : FrR h0' h) : KR G h0' h :=
  ⟨K.sh, K.now, K.doors, K.doors_le, K.trucks, K.trucks_le, K.waits, K.waits_le, K.state, K.st4, K.fresh, K.doorOf, K.atd, K.ex, K.waiting, K.wt12, K.newDoor, F⟩
theorem KR.st0 {G : GR} {h0 h : AH} (K : KR G h0 h) : KR G h h := K.refr FrR.rf
theorem KR.tr {G G' : GR} {h0 h1 h2 : AH} (K : KR G h0 h1) (K2 : KR G' h1 h2) : KR G' h0 h2 := K2.refr (K.fr.tr K2.fr)
/-- a place that nobody minds -/
theorem KR.up {G : GR} {h0 h : AH} {c i k : Nat} {v : Int32} (K : KR G h0 h) (ho : (c = 5 ∧ k ≠ 1 ∧ k ≠ 2 ∧ k ≠ 8 ∧ k ≠ 20 ∧ k ≠ 22) ∨ (c = 100 ∧ 15 ≤ i ∧ i ≠ 19 ∧ i ≠ 24 ∧ i ≠ 28 ∧ i ≠ 29) ∨ c = 102) : KR G h0 (ma_up h.1 c i k v, h.2) := by
  have e : ∀ c' i' k', (c' = 5 ∧ (k' = 1 ∨ k' = 2 ∨ k' = 8 ∨ k' = 20 ∨ k' = 22)) ∨ (c' = 100 ∧ (i' = 19 ∨ i' = 24 ∨ i' = 28 ∨ i' = 29)) → ma_up h.1 c i k v c' i' k' = h.1 c' i' k' := fun c' i' k' h9 => ma_up_ne (by omega)
  refine ⟨K.sh, (e _ _ _ (by omega)).trans K.now, (e _ _ _ (by omega)).trans K.doors, K.doors_le, (e _ _ _ (by omega)).trans K.trucks, K.trucks_le, (e _ _ _ (by omega)).trans K.waits, K.waits_le, fun t => (e _ _ _ (by omega)).trans (K.state t), K.st4, K.fresh, fun t ht => ?_, fun t ht hs => ?_, ?_, fun t => (e _ _ _ (by omega)).trans (K.waiting t), K.wt12, fun t ht => ?_, K.fr.up (by omega)⟩
  · show inD (ma_up h.1 c i k v 100 24 t); rw [e _ _ _ (by omega)]; exact K.doorOf t ht
  · show inR 4 (ma_up h.1 c i k v 100 24 t); rw [e _ _ _ (by omega)]; exact K.atd t ht hs
  · show ma_up h.1 c i k v 5 0 20 = 0 ∨ ma_up h.1 c i k v 5 0 20 = 1; rw [e _ _ _ (by omega)]; exact K.ex
  · show inD (ma_up h.1 c i k v 100 29 t); rw [e _ _ _ (by omega)]; exact K.newDoor t ht
theorem KR.upNow {G : GR} {h0 h : AH} {v : Int32}  (K : KR G h0 h)  : KR (G.1, v, G.2.2) h0 (ma_up h.1 5 0 1 v, h.2) :=
  ⟨K.sh,
   ma_up_self h.1 5 0 1 v,
   (show ma_up h.1 5 0 1 v 5 0 2 = h.1 5 0 2 from ma_up_ne (by omega)).trans K.doors,
   K.doors_le,
   (show ma_up h.1 5 0 1 v 5 0 8 = h.1 5 0 8 from ma_up_ne (by omega)).trans K.trucks,
   K.trucks_le,
   (show ma_up h.1 5 0 1 v 5 0 22 = h.1 5 0 22 from ma_up_ne (by omega)).trans K.waits,
   K.waits_le,
   fun t => (show ma_up h.1 5 0 1 v 100 19 t = h.1 100 19 t from ma_up_ne (by omega)).trans (K.state t),
   K.st4,
   K.fresh,
   fun t ht => by
    show inD (ma_up h.1 5 0 1 v 100 24 t)
    rw [ma_up_ne (by omega)]
    exact K.doorOf t ht,
   fun t ht hs => by
    show inR 4 (ma_up h.1 5 0 1 v 100 24 t)
    rw [ma_up_ne (by omega)]
    exact K.atd t ht hs,
   by
    show ma_up h.1 5 0 1 v 5 0 20 = 0 ∨ ma_up h.1 5 0 1 v 5 0 20 = 1
    rw [ma_up_ne (by omega)]
    exact K.ex,
   fun t => (show ma_up h.1 5 0 1 v 100 28 t = h.1 100 28 t from ma_up_ne (by omega)).trans (K.waiting t),
   K.wt12,
   fun t ht => by
    show inD (ma_up h.1 5 0 1 v 100 29 t)
    rw [ma_up_ne (by omega)]
    exact K.newDoor t ht,
   K.fr.up (by omega)⟩
theorem KR.upDoors {G : GR} {h0 h : AH} {v : Int32}  (K : KR G h0 h) (hv : v = nI (G.1.1 + 1)) (hl : G.1.1 < 4) : KR ((G.1.1 + 1, G.1.2), G.2) h0 (ma_up h.1 5 0 2 v, h.2) :=
  ⟨K.sh,
   (show ma_up h.1 5 0 2 v 5 0 1 = h.1 5 0 1 from ma_up_ne (by omega)).trans K.now,
   (ma_up_self h.1 5 0 2 v).trans hv,
   hl,
   (show ma_up h.1 5 0 2 v 5 0 8 = h.1 5 0 8 from ma_up_ne (by omega)).trans K.trucks,
   K.trucks_le,
   (show ma_up h.1 5 0 2 v 5 0 22 = h.1 5 0 22 from ma_up_ne (by omega)).trans K.waits,
   K.waits_le,
   fun t => (show ma_up h.1 5 0 2 v 100 19 t = h.1 100 19 t from ma_up_ne (by omega)).trans (K.state t),
   K.st4,
   K.fresh,
   fun t ht => by
    show inD (ma_up h.1 5 0 2 v 100 24 t)
    rw [ma_up_ne (by omega)]
    exact K.doorOf t ht,
   fun t ht hs => by
    show inR 4 (ma_up h.1 5 0 2 v 100 24 t)
    rw [ma_up_ne (by omega)]
    exact K.atd t ht hs,
   by
    show ma_up h.1 5 0 2 v 5 0 20 = 0 ∨ ma_up h.1 5 0 2 v 5 0 20 = 1
    rw [ma_up_ne (by omega)]
    exact K.ex,
   fun t => (show ma_up h.1 5 0 2 v 100 28 t = h.1 100 28 t from ma_up_ne (by omega)).trans (K.waiting t),
   K.wt12,
   fun t ht => by
    show inD (ma_up h.1 5 0 2 v 100 29 t)
    rw [ma_up_ne (by omega)]
    exact K.newDoor t ht,
   K.fr.up (by omega)⟩
theorem KR.upTrucks {G : GR} {h0 h : AH} {v : Int32}  (K : KR G h0 h) (hv : v = nI (G.1.2.1 + 1)) (hl : G.1.2.1 < 12) : KR ((G.1.1, G.1.2.1 + 1, G.1.2.2), G.2) h0 (ma_up h.1 5 0 8 v, h.2) :=
  ⟨K.sh,
   (show ma_up h.1 5 0 8 v 5 0 1 = h.1 5 0 1 from ma_up_ne (by omega)).trans K.now,
   (show ma_up h.1 5 0 8 v 5 0 2 = h.1 5 0 2 from ma_up_ne (by omega)).trans K.doors,
   K.doors_le,
   (ma_up_self h.1 5 0 8 v).trans hv,
   hl,
   (show ma_up h.1 5 0 8 v 5 0 22 = h.1 5 0 22 from ma_up_ne (by omega)).trans K.waits,
   K.waits_le,
   fun t => (show ma_up h.1 5 0 8 v 100 19 t = h.1 100 19 t from ma_up_ne (by omega)).trans (K.state t),
   K.st4,
   fun t ht h9 => K.fresh t ht (Nat.le_of_succ_le h9),
   fun t ht => by
    show inD (ma_up h.1 5 0 8 v 100 24 t)
    rw [ma_up_ne (by omega)]
    exact K.doorOf t ht,
   fun t ht hs => by
    show inR 4 (ma_up h.1 5 0 8 v 100 24 t)
    rw [ma_up_ne (by omega)]
    exact K.atd t ht hs,
   by
    show ma_up h.1 5 0 8 v 5 0 20 = 0 ∨ ma_up h.1 5 0 8 v 5 0 20 = 1
    rw [ma_up_ne (by omega)]
    exact K.ex,
   fun t => (show ma_up h.1 5 0 8 v 100 28 t = h.1 100 28 t from ma_up_ne (by omega)).trans (K.waiting t),
   K.wt12,
   fun t ht => by
    show inD (ma_up h.1 5 0 8 v 100 29 t)
    rw [ma_up_ne (by omega)]
    exact K.newDoor t ht,
   K.fr.up (by omega)⟩
theorem KR.upWaits {G : GR} {h0 h : AH} {v : Int32} {w : Nat} (K : KR G h0 h) (hv : v = nI w) (hl : w ≤ 12) : KR ((G.1.1, G.1.2.1, w), G.2) h0 (ma_up h.1 5 0 22 v, h.2) :=
  ⟨K.sh,
   (show ma_up h.1 5 0 22 v 5 0 1 = h.1 5 0 1 from ma_up_ne (by omega)).trans K.now,
   (show ma_up h.1 5 0 22 v 5 0 2 = h.1 5 0 2 from ma_up_ne (by omega)).trans K.doors,
   K.doors_le,
   (show ma_up h.1 5 0 22 v 5 0 8 = h.1 5 0 8 from ma_up_ne (by omega)).trans K.trucks,
   K.trucks_le,
   (ma_up_self h.1 5 0 22 v).trans hv,
   hl,
   fun t => (show ma_up h.1 5 0 22 v 100 19 t = h.1 100 19 t from ma_up_ne (by omega)).trans (K.state t),
   K.st4,
   K.fresh,
   fun t ht => by
    show inD (ma_up h.1 5 0 22 v 100 24 t)
    rw [ma_up_ne (by omega)]
    exact K.doorOf t ht,
   fun t ht hs => by
    show inR 4 (ma_up h.1 5 0 22 v 100 24 t)
    rw [ma_up_ne (by omega)]
    exact K.atd t ht hs,
   by
    show ma_up h.1 5 0 22 v 5 0 20 = 0 ∨ ma_up h.1 5 0 22 v 5 0 20 = 1
    rw [ma_up_ne (by omega)]
    exact K.ex,
   fun t => (show ma_up h.1 5 0 22 v 100 28 t = h.1 100 28 t from ma_up_ne (by omega)).trans (K.waiting t),
   K.wt12,
   fun t ht => by
    show inD (ma_up h.1 5 0 22 v 100 29 t)
    rw [ma_up_ne (by omega)]
    exact K.newDoor t ht,
   K.fr.up (by omega)⟩
theorem KR.upEx {G : GR} {h0 h : AH} {v : Int32}  (K : KR G h0 h) (hv : v = 0 ∨ v = 1) : KR G h0 (ma_up h.1 5 0 20 v, h.2) :=
  ⟨K.sh,
   (show ma_up h.1 5 0 20 v 5 0 1 = h.1 5 0 1 from ma_up_ne (by omega)).trans K.now,
   (show ma_up h.1 5 0 20 v 5 0 2 = h.1 5 0 2 from ma_up_ne (by omega)).trans K.doors,
   K.doors_le,
   (show ma_up h.1 5 0 20 v 5 0 8 = h.1 5 0 8 from ma_up_ne (by omega)).trans K.trucks,
   K.trucks_le,
   (show ma_up h.1 5 0 20 v 5 0 22 = h.1 5 0 22 from ma_up_ne (by omega)).trans K.waits,
   K.waits_le,
   fun t => (show ma_up h.1 5 0 20 v 100 19 t = h.1 100 19 t from ma_up_ne (by omega)).trans (K.state t),
   K.st4,
   K.fresh,
   fun t ht => by
    show inD (ma_up h.1 5 0 20 v 100 24 t)
    rw [ma_up_ne (by omega)]
    exact K.doorOf t ht,
   fun t ht hs => by
    show inR 4 (ma_up h.1 5 0 20 v 100 24 t)
    rw [ma_up_ne (by omega)]
    exact K.atd t ht hs,
   by
    show ma_up h.1 5 0 20 v 5 0 20 = 0 ∨ ma_up h.1 5 0 20 v 5 0 20 = 1
    rw [ma_up_self]
    exact hv,
   fun t => (show ma_up h.1 5 0 20 v 100 28 t = h.1 100 28 t from ma_up_ne (by omega)).trans (K.waiting t),
   K.wt12,
   fun t ht => by
    show inD (ma_up h.1 5 0 20 v 100 29 t)
    rw [ma_up_ne (by omega)]
    exact K.newDoor t ht,
   K.fr.up (by omega)⟩
theorem KR.upNewDoor {G : GR} {h0 h : AH} {v : Int32} {x : Nat} (K : KR G h0 h) (hv : inD v) : KR G h0 (ma_up h.1 100 29 x v, h.2) :=
  ⟨K.sh,
   (show ma_up h.1 100 29 x v 5 0 1 = h.1 5 0 1 from ma_up_ne (by omega)).trans K.now,
   (show ma_up h.1 100 29 x v 5 0 2 = h.1 5 0 2 from ma_up_ne (by omega)).trans K.doors,
   K.doors_le,
   (show ma_up h.1 100 29 x v 5 0 8 = h.1 5 0 8 from ma_up_ne (by omega)).trans K.trucks,
   K.trucks_le,
   (show ma_up h.1 100 29 x v 5 0 22 = h.1 5 0 22 from ma_up_ne (by omega)).trans K.waits,
   K.waits_le,
   fun t => (show ma_up h.1 100 29 x v 100 19 t = h.1 100 19 t from ma_up_ne (by omega)).trans (K.state t),
   K.st4,
   K.fresh,
   fun t ht => by
    show inD (ma_up h.1 100 29 x v 100 24 t)
    rw [ma_up_ne (by omega)]
    exact K.doorOf t ht,
   fun t ht hs => by
    show inR 4 (ma_up h.1 100 29 x v 100 24 t)
    rw [ma_up_ne (by omega)]
    exact K.atd t ht hs,
   by
    show ma_up h.1 100 29 x v 5 0 20 = 0 ∨ ma_up h.1 100 29 x v 5 0 20 = 1
    rw [ma_up_ne (by omega)]
    exact K.ex,
   fun t => (show ma_up h.1 100 29 x v 100 28 t = h.1 100 28 t from ma_up_ne (by omega)).trans (K.waiting t),
   K.wt12,
   fun t ht => by
    show inD (ma_up h.1 100 29 x v 100 29 t)
    exact ma_up_cases inD (fun _ => hv) (fun _ => K.newDoor t ht),
   K.fr.up (by omega)⟩
theorem KR.upDoorOf {G : GR} {h0 h : AH} {v : Int32} {x : Nat} (K : KR G h0 h) (hv : inD v) (hs1 : G.2.2.1 x = 1 → inR 4 v) : KR G h0 (ma_up h.1 100 24 x v, h.2) :=
  ⟨K.sh,
   (show ma_up h.1 100 24 x v 5 0 1 = h.1 5 0 1 from ma_up_ne (by omega)).trans K.now,
   (show ma_up h.1 100 24 x v 5 0 2 = h.1 5 0 2 from ma_up_ne (by omega)).trans K.doors,
   K.doors_le,
   (show ma_up h.1 100 24 x v 5 0 8 = h.1 5 0 8 from ma_up_ne (by omega)).trans K.trucks,
   K.trucks_le,
   (show ma_up h.1 100 24 x v 5 0 22 = h.1 5 0 22 from ma_up_ne (by omega)).trans K.waits,
   K.waits_le,
   fun t => (show ma_up h.1 100 24 x v 100 19 t = h.1 100 19 t from ma_up_ne (by omega)).trans (K.state t),
   K.st4,
   K.fresh,
   fun t ht => by
    show inD (ma_up h.1 100 24 x v 100 24 t)
    exact ma_up_cases inD (fun _ => hv) (fun _ => K.doorOf t ht),
   fun t ht hs => by
    show inR 4 (ma_up h.1 100 24 x v 100 24 t)
    exact ma_up_cases (inR 4) (fun e => hs1 (e ▸ hs)) (fun _ => K.atd t ht hs),
   by
    show ma_up h.1 100 24 x v 5 0 20 = 0 ∨ ma_up h.1 100 24 x v 5 0 20 = 1
    rw [ma_up_ne (by omega)]
    exact K.ex,
   fun t => (show ma_up h.1 100 24 x v 100 28 t = h.1 100 28 t from ma_up_ne (by omega)).trans (K.waiting t),
   K.wt12,
   fun t ht => by
    show inD (ma_up h.1 100 24 x v 100 29 t)
    rw [ma_up_ne (by omega)]
    exact K.newDoor t ht,
   K.fr.up (by omega)⟩
/-- a row at one place -/
def f_up (f : Nat → Int32) (x : Nat) (v : Int32) : Nat → Int32 := fun t => if t = x then v else f t
theorem f_up_self (f : Nat → Int32) (x : Nat) (v : Int32) : f_up f x v x = v := if_pos rfl
theorem f_up_ne {f : Nat → Int32} {x t : Nat} {v : Int32} (h : t ≠ x) : f_up f x v t = f t := if_neg h
theorem ma_up_f {m : Nat → Nat → Nat → Int32} {c i x t : Nat} {v : Int32} {f : Nat → Int32} (h : m c i t = f t) : ma_up m c i x v c i t = f_up f x v t := by
  by_cases e : t = x
  · subst e; rw [ma_up_self, f_up_self]
  · rw [ma_up_ne (Or.inr (Or.inr e)), f_up_ne e]; exact h
theorem KR.upState {G : GR} {h0 h : AH} {v : Int32} {x : Nat} (K : KR G h0 h) (hv : inR 4 v) (hx : x < G.1.2.1) (hs1 : v = 1 → inR 4 (h.1 100 24 x)) : KR (G.1, G.2.1, f_up G.2.2.1 x v, G.2.2.2) h0 (ma_up h.1 100 19 x v, h.2) :=
  ⟨K.sh,
   (show ma_up h.1 100 19 x v 5 0 1 = h.1 5 0 1 from ma_up_ne (by omega)).trans K.now,
   (show ma_up h.1 100 19 x v 5 0 2 = h.1 5 0 2 from ma_up_ne (by omega)).trans K.doors,
   K.doors_le,
   (show ma_up h.1 100 19 x v 5 0 8 = h.1 5 0 8 from ma_up_ne (by omega)).trans K.trucks,
   K.trucks_le,
   (show ma_up h.1 100 19 x v 5 0 22 = h.1 5 0 22 from ma_up_ne (by omega)).trans K.waits,
   K.waits_le,
   fun t => ma_up_f (K.state t),
   fun t ht => by
    by_cases e : t = x
    · subst e; show inR 4 (f_up G.2.2.1 t v t); rw [f_up_self]; exact hv
    · show inR 4 (f_up G.2.2.1 x v t); rw [f_up_ne e]; exact K.st4 t ht,
   fun t ht h9 => (f_up_ne (by have := h9; simp only at this; omega)).trans (K.fresh t ht h9),
   fun t ht => by
    show inD (ma_up h.1 100 19 x v 100 24 t)
    rw [ma_up_ne (by omega)]
    exact K.doorOf t ht,
   fun t ht hs => by
    show inR 4 (ma_up h.1 100 19 x v 100 24 t)
    rw [ma_up_ne (by omega)]
    by_cases e : t = x
    · subst e; have h9 : f_up G.2.2.1 t v t = 1 := hs; rw [f_up_self] at h9; exact hs1 h9
    · have h9 : f_up G.2.2.1 x v t = 1 := hs; rw [f_up_ne e] at h9; exact K.atd t ht h9,
   by
    show ma_up h.1 100 19 x v 5 0 20 = 0 ∨ ma_up h.1 100 19 x v 5 0 20 = 1
    rw [ma_up_ne (by omega)]
    exact K.ex,
   fun t => (show ma_up h.1 100 19 x v 100 28 t = h.1 100 28 t from ma_up_ne (by omega)).trans (K.waiting t),
   K.wt12,
   fun t ht => by
    show inD (ma_up h.1 100 19 x v 100 29 t)
    rw [ma_up_ne (by omega)]
    exact K.newDoor t ht,
   K.fr.up (by omega)⟩
theorem KR.upWaiting {G : GR} {h0 h : AH} {v : Int32} {x : Nat} (K : KR G h0 h) (hv : inR 12 v) : KR (G.1, G.2.1, G.2.2.1, f_up G.2.2.2 x v) h0 (ma_up h.1 100 28 x v, h.2) :=
  ⟨K.sh,
   (show ma_up h.1 100 28 x v 5 0 1 = h.1 5 0 1 from ma_up_ne (by omega)).trans K.now,
   (show ma_up h.1 100 28 x v 5 0 2 = h.1 5 0 2 from ma_up_ne (by omega)).trans K.doors,
   K.doors_le,
   (show ma_up h.1 100 28 x v 5 0 8 = h.1 5 0 8 from ma_up_ne (by omega)).trans K.trucks,
   K.trucks_le,
   (show ma_up h.1 100 28 x v 5 0 22 = h.1 5 0 22 from ma_up_ne (by omega)).trans K.waits,
   K.waits_le,
   fun t => (show ma_up h.1 100 28 x v 100 19 t = h.1 100 19 t from ma_up_ne (by omega)).trans (K.state t),
   K.st4,
   K.fresh,
   fun t ht => by
    show inD (ma_up h.1 100 28 x v 100 24 t)
    rw [ma_up_ne (by omega)]
    exact K.doorOf t ht,
   fun t ht hs => by
    show inR 4 (ma_up h.1 100 28 x v 100 24 t)
    rw [ma_up_ne (by omega)]
    exact K.atd t ht hs,
   by
    show ma_up h.1 100 28 x v 5 0 20 = 0 ∨ ma_up h.1 100 28 x v 5 0 20 = 1
    rw [ma_up_ne (by omega)]
    exact K.ex,
   fun t => ma_up_f (K.waiting t),
   fun t ht => by
    by_cases e : t = x
    · subst e; show inR 12 (f_up G.2.2.2 t v t); rw [f_up_self]; exact hv
    · show inR 12 (f_up G.2.2.2 x v t); rw [f_up_ne e]; exact K.wt12 t ht,
   fun t ht => by
    show inD (ma_up h.1 100 28 x v 100 29 t)
    rw [ma_up_ne (by omega)]
    exact K.newDoor t ht,
   K.fr.up (by omega)⟩
/-! THE BOOK: shape, invariant, writes -/
def SC (h : AH) : Prop := (h.2.1 1 0 0 = some (112, 0)) ∧ (h.2.2.2.1 112 0 = 4) ∧ (h.2.1 1 0 1 = some (100, 0)) ∧ (h.2.2.2.1 100 0 = 4) ∧ (h.2.1 1 0 2 = some (100, 1)) ∧ (h.2.2.2.1 100 1 = 5) ∧ (h.2.1 1 0 3 = some (100, 2)) ∧ (h.2.2.2.1 100 2 = 5) ∧ (∀ i, i < 4 → h.2.1 112 0 i = some (2, i)) ∧ (∀ i, i < 4 → h.2.1 2 i 0 = some (100, 3 + 3 * i)) ∧ (∀ i, i < 4 → h.2.2.2.1 100 (3 + 3 * i) = 32) ∧ (∀ i, i < 4 → h.2.1 2 i 1 = some (100, 4 + 3 * i)) ∧ (∀ i, i < 4 → h.2.2.2.1 100 (4 + 3 * i) = 160) ∧ (∀ i, i < 4 → h.2.1 2 i 2 = some (100, 5 + 3 * i)) ∧ (∀ i, i < 4 → h.2.2.2.1 100 (5 + 3 * i) = 5)
theorem SC.orders {h : AH} (K : SC h) : h.2.1 1 0 0 = some (112, 0) := K.1
theorem SC.lorders {h : AH} (K : SC h) : h.2.2.2.1 112 0 = 4 := K.2.1
theorem SC.setAt {h : AH} (K : SC h) : h.2.1 1 0 1 = some (100, 0) := K.2.2.1
theorem SC.lsetAt {h : AH} (K : SC h) : h.2.2.2.1 100 0 = 4 := K.2.2.2.1
theorem SC.chosen {h : AH} (K : SC h) : h.2.1 1 0 2 = some (100, 1) := K.2.2.2.2.1
theorem SC.lchosen {h : AH} (K : SC h) : h.2.2.2.1 100 1 = 5 := K.2.2.2.2.2.1
theorem SC.best {h : AH} (K : SC h) : h.2.1 1 0 3 = some (100, 2) := K.2.2.2.2.2.2.1
theorem SC.lbest {h : AH} (K : SC h) : h.2.2.2.1 100 2 = 5 := K.2.2.2.2.2.2.2.1
theorem SC.order {h : AH} (K : SC h) : ∀ i, i < 4 → h.2.1 112 0 i = some (2, i) := K.2.2.2.2.2.2.2.2.1
theorem SC.costs {h : AH} (K : SC h) : ∀ i, i < 4 → h.2.1 2 i 0 = some (100, 3 + 3 * i) := K.2.2.2.2.2.2.2.2.2.1
theorem SC.lcosts {h : AH} (K : SC h) : ∀ i, i < 4 → h.2.2.2.1 100 (3 + 3 * i) = 32 := K.2.2.2.2.2.2.2.2.2.2.1
theorem SC.bests {h : AH} (K : SC h) : ∀ i, i < 4 → h.2.1 2 i 1 = some (100, 4 + 3 * i) := K.2.2.2.2.2.2.2.2.2.2.2.1
theorem SC.lbests {h : AH} (K : SC h) : ∀ i, i < 4 → h.2.2.2.1 100 (4 + 3 * i) = 160 := K.2.2.2.2.2.2.2.2.2.2.2.2.1
theorem SC.starts {h : AH} (K : SC h) : ∀ i, i < 4 → h.2.1 2 i 2 = some (100, 5 + 3 * i) := K.2.2.2.2.2.2.2.2.2.2.2.2.2.1
theorem SC.lstarts {h : AH} (K : SC h) : ∀ i, i < 4 → h.2.2.2.1 100 (5 + 3 * i) = 5 := K.2.2.2.2.2.2.2.2.2.2.2.2.2.2
def FrB (h0 h : AH) : Prop := (∀ c i k, ¬ (c ≤ 4 ∨ (c = 100 ∧ i < 15)) → h.1 c i k = h0.1 c i k) ∧ (∀ c i k, ¬ (c = 113 ∧ i = 1) → h.2.1 c i k = h0.2.1 c i k) ∧ h.2.2 = h0.2.2
/-- G: doors, trucks; now -/
abbrev GB : Type := (Nat × Nat) × Int32
def KB (G : GB) (h0 h : AH) : Prop := (SB h) ∧ (SC h) ∧ (h.1 4 0 4 = nI G.1.1) ∧ (G.1.1 ≤ 4) ∧ (h.1 4 0 5 = nI G.1.2) ∧ (G.1.2 ≤ 12) ∧ (h.1 4 0 6 = G.2) ∧ (h.1 4 0 7 = 0 ∨ h.1 4 0 7 = 1) ∧ (∀ i, i < 12 → ∃ j, j < 12 ∧ h.2.1 113 1 i = some (3, j)) ∧ (∀ k, k < 5 → inD (h.1 100 2 k)) ∧ (∀ k, k < 5 → inD (h.1 100 1 k)) ∧ (∀ k, k < 4 → inR 32 (h.1 100 0 k)) ∧ (FrB h0 h)
theorem KB.sb {G : GB} {h0 h : AH} (K : KB G h0 h) : SB h := K.1
theorem KB.sc {G : GB} {h0 h : AH} (K : KB G h0 h) : SC h := K.2.1
theorem KB.doors {G : GB} {h0 h : AH} (K : KB G h0 h) : h.1 4 0 4 = nI G.1.1 := K.2.2.1
theorem KB.doors_le {G : GB} {h0 h : AH} (K : KB G h0 h) : G.1.1 ≤ 4 := K.2.2.2.1
theorem KB.trucks {G : GB} {h0 h : AH} (K : KB G h0 h) : h.1 4 0 5 = nI G.1.2 := K.2.2.2.2.1
theorem KB.trucks_le {G : GB} {h0 h : AH} (K : KB G h0 h) : G.1.2 ≤ 12 := K.2.2.2.2.2.1
theorem KB.now {G : GB} {h0 h : AH} (K : KB G h0 h) : h.1 4 0 6 = G.2 := K.2.2.2.2.2.2.1
theorem KB.ex {G : GB} {h0 h : AH} (K : KB G h0 h) : h.1 4 0 7 = 0 ∨ h.1 4 0 7 = 1 := K.2.2.2.2.2.2.2.1
theorem KB.wait {G : GB} {h0 h : AH} (K : KB G h0 h) : ∀ i, i < 12 → ∃ j, j < 12 ∧ h.2.1 113 1 i = some (3, j) := K.2.2.2.2.2.2.2.2.1
theorem KB.bd {G : GB} {h0 h : AH} (K : KB G h0 h) : ∀ k, k < 5 → inD (h.1 100 2 k) := K.2.2.2.2.2.2.2.2.2.1
theorem KB.cd {G : GB} {h0 h : AH} (K : KB G h0 h) : ∀ k, k < 5 → inD (h.1 100 1 k) := K.2.2.2.2.2.2.2.2.2.2.1
theorem KB.sa {G : GB} {h0 h : AH} (K : KB G h0 h) : ∀ k, k < 4 → inR 32 (h.1 100 0 k) := K.2.2.2.2.2.2.2.2.2.2.2.1
theorem KB.fr {G : GB} {h0 h : AH} (K : KB G h0 h) : FrB h0 h := K.2.2.2.2.2.2.2.2.2.2.2.2
theorem SB.wait {h : AH} (s : SB h) : h.2.1 4 0 2 = some (113, 1) := s.2.2.1
theorem SB.lwait {h : AH} (s : SB h) : h.2.2.2.1 113 1 = 12 := s.2.2.2.2.2.2.1
theorem SB.choice {h : AH} (s : SB h) : h.2.1 4 0 3 = some (1, 0) := s.2.2.2.1
theorem FrB.rf {h : AH} : FrB h h := ⟨fun _ _ _ _ => rfl, fun _ _ _ _ => rfl, rfl⟩
theorem FrB.up {h0 h : AH} {c i k : Nat} {v : Int32} (F : FrB h0 h) (ho : c ≤ 4 ∨ (c = 100 ∧ i < 15)) : FrB h0 (ma_up h.1 c i k v, h.2) :=
  ⟨fun c' i' k' hn => by
    show ma_up h.1 c i k v c' i' k' = _
    rw [ma_up_ne (by omega)]
    exact F.1 c' i' k' hn, F.2⟩
theorem FrB.tr {h0 h1 h2 : AH} (F : FrB h0 h1) (F2 : FrB h1 h2) : FrB h0 h2 := ⟨fun c i k hn => (F2.1 c i k hn).trans (F.1 c i k hn), fun c i k hn => (F2.2.1 c i k hn).trans (F.2.1 c i k hn), F2.2.2.trans F.2.2⟩
theorem KB.refr {G : GB} {h0 h0' h : AH} (K : KB G h0 h) (F : FrB h0' h) : KB G h0' h := ⟨K.sb, K.sc, K.doors, K.doors_le, K.trucks, K.trucks_le, K.now, K.ex, K.wait, K.bd, K.cd, K.sa, F⟩
theorem KB.st0 {G : GB} {h0 h : AH} (K : KB G h0 h) : KB G h h := K.refr FrB.rf
theorem KB.tr {G G' : GB} {h0 h1 h2 : AH} (K : KB G h0 h1) (K2 : KB G' h1 h2) : KB G' h0 h2 := K2.refr (K.fr.tr K2.fr)
/-- a place that nobody minds -/
theorem KB.up {G : GB} {h0 h : AH} {c i k : Nat} {v : Int32} (K : KB G h0 h) (ho : c ≤ 3 ∨ (c = 4 ∧ k = 8) ∨ (c = 100 ∧ i < 15 ∧ 2 < i)) : KB G h0 (ma_up h.1 c i k v, h.2) := by
  have e : ∀ c' i' k', (c' = 4 ∧ (k' = 4 ∨ k' = 5 ∨ k' = 6 ∨ k' = 7)) ∨ (c' = 100 ∧ i' ≤ 2) → ma_up h.1 c i k v c' i' k' = h.1 c' i' k' := fun c' i' k' h9 => ma_up_ne (by omega)
  refine ⟨K.sb, K.sc, (e _ _ _ (by omega)).trans K.doors, K.doors_le, (e _ _ _ (by omega)).trans K.trucks, K.trucks_le, (e _ _ _ (by omega)).trans K.now, ?_, K.wait, fun t ht => ?_, fun t ht => ?_, fun t ht => ?_, K.fr.up (by omega)⟩
  · show ma_up h.1 c i k v 4 0 7 = 0 ∨ ma_up h.1 c i k v 4 0 7 = 1; rw [e _ _ _ (by omega)]; exact K.ex
  · show inD (ma_up h.1 c i k v 100 2 t); rw [e _ _ _ (by omega)]; exact K.bd t ht
  · show inD (ma_up h.1 c i k v 100 1 t); rw [e _ _ _ (by omega)]; exact K.cd t ht
  · show inR 32 (ma_up h.1 c i k v 100 0 t); rw [e _ _ _ (by omega)]; exact K.sa t ht
theorem KB.upBest {G : GB} {h0 h : AH} {v : Int32} {x : Nat} (K : KB G h0 h) (hv : inD v) : KB G h0 (ma_up h.1 100 2 x v, h.2) :=
  ⟨K.sb,
   K.sc,
   (show ma_up h.1 100 2 x v 4 0 4 = h.1 4 0 4 from ma_up_ne (by omega)).trans K.doors,
   K.doors_le,
   (show ma_up h.1 100 2 x v 4 0 5 = h.1 4 0 5 from ma_up_ne (by omega)).trans K.trucks,
   K.trucks_le,
   (show ma_up h.1 100 2 x v 4 0 6 = h.1 4 0 6 from ma_up_ne (by omega)).trans K.now,
   by
    show ma_up h.1 100 2 x v 4 0 7 = 0 ∨ ma_up h.1 100 2 x v 4 0 7 = 1
    rw [ma_up_ne (by omega)]
    exact K.ex,
   K.wait,
   fun t ht => by
    show inD (ma_up h.1 100 2 x v 100 2 t)
    exact ma_up_cases (inD) (fun _ => hv) (fun _ => K.bd t ht),
   fun t ht => by
    show inD (ma_up h.1 100 2 x v 100 1 t)
    rw [ma_up_ne (by omega)]
    exact K.cd t ht,
   fun t ht => by
    show inR 32 (ma_up h.1 100 2 x v 100 0 t)
    rw [ma_up_ne (by omega)]
    exact K.sa t ht,
   K.fr.up (by omega)⟩
theorem KB.upChosen {G : GB} {h0 h : AH} {v : Int32} {x : Nat} (K : KB G h0 h) (hv : inD v) : KB G h0 (ma_up h.1 100 1 x v, h.2) :=
  ⟨K.sb,
   K.sc,
   (show ma_up h.1 100 1 x v 4 0 4 = h.1 4 0 4 from ma_up_ne (by omega)).trans K.doors,
   K.doors_le,
   (show ma_up h.1 100 1 x v 4 0 5 = h.1 4 0 5 from ma_up_ne (by omega)).trans K.trucks,
   K.trucks_le,
   (show ma_up h.1 100 1 x v 4 0 6 = h.1 4 0 6 from ma_up_ne (by omega)).trans K.now,
   by
    show ma_up h.1 100 1 x v 4 0 7 = 0 ∨ ma_up h.1 100 1 x v 4 0 7 = 1
    rw [ma_up_ne (by omega)]
    exact K.ex,
   K.wait,
   fun t ht => by
    show inD (ma_up h.1 100 1 x v 100 2 t)
    rw [ma_up_ne (by omega)]
    exact K.bd t ht,
   fun t ht => by
    show inD (ma_up h.1 100 1 x v 100 1 t)
    exact ma_up_cases (inD) (fun _ => hv) (fun _ => K.cd t ht),
   fun t ht => by
    show inR 32 (ma_up h.1 100 1 x v 100 0 t)
    rw [ma_up_ne (by omega)]
    exact K.sa t ht,
   K.fr.up (by omega)⟩
theorem KB.upSetAt {G : GB} {h0 h : AH} {v : Int32} {x : Nat} (K : KB G h0 h) (hv : inR 32 v) : KB G h0 (ma_up h.1 100 0 x v, h.2) :=
  ⟨K.sb,
   K.sc,
   (show ma_up h.1 100 0 x v 4 0 4 = h.1 4 0 4 from ma_up_ne (by omega)).trans K.doors,
   K.doors_le,
   (show ma_up h.1 100 0 x v 4 0 5 = h.1 4 0 5 from ma_up_ne (by omega)).trans K.trucks,
   K.trucks_le,
   (show ma_up h.1 100 0 x v 4 0 6 = h.1 4 0 6 from ma_up_ne (by omega)).trans K.now,
   by
    show ma_up h.1 100 0 x v 4 0 7 = 0 ∨ ma_up h.1 100 0 x v 4 0 7 = 1
    rw [ma_up_ne (by omega)]
    exact K.ex,
   K.wait,
   fun t ht => by
    show inD (ma_up h.1 100 0 x v 100 2 t)
    rw [ma_up_ne (by omega)]
    exact K.bd t ht,
   fun t ht => by
    show inD (ma_up h.1 100 0 x v 100 1 t)
    rw [ma_up_ne (by omega)]
    exact K.cd t ht,
   fun t ht => by
    show inR 32 (ma_up h.1 100 0 x v 100 0 t)
    exact ma_up_cases (inR 32) (fun _ => hv) (fun _ => K.sa t ht),
   K.fr.up (by omega)⟩
theorem KB.upEx {G : GB} {h0 h : AH} {v : Int32}  (K : KB G h0 h) (hv : v = 0 ∨ v = 1) : KB G h0 (ma_up h.1 4 0 7 v, h.2) :=
  ⟨K.sb,
   K.sc,
   (show ma_up h.1 4 0 7 v 4 0 4 = h.1 4 0 4 from ma_up_ne (by omega)).trans K.doors,
   K.doors_le,
   (show ma_up h.1 4 0 7 v 4 0 5 = h.1 4 0 5 from ma_up_ne (by omega)).trans K.trucks,
   K.trucks_le,
   (show ma_up h.1 4 0 7 v 4 0 6 = h.1 4 0 6 from ma_up_ne (by omega)).trans K.now,
   by
    show ma_up h.1 4 0 7 v 4 0 7 = 0 ∨ ma_up h.1 4 0 7 v 4 0 7 = 1
    rw [ma_up_self]
    exact hv,
   K.wait,
   fun t ht => by
    show inD (ma_up h.1 4 0 7 v 100 2 t)
    rw [ma_up_ne (by omega)]
    exact K.bd t ht,
   fun t ht => by
    show inD (ma_up h.1 4 0 7 v 100 1 t)
    rw [ma_up_ne (by omega)]
    exact K.cd t ht,
   fun t ht => by
    show inR 32 (ma_up h.1 4 0 7 v 100 0 t)
    rw [ma_up_ne (by omega)]
    exact K.sa t ht,
   K.fr.up (by omega)⟩
theorem KB.upNow {G : GB} {h0 h : AH} {v : Int32}  (K : KB G h0 h)  : KB (G.1, v) h0 (ma_up h.1 4 0 6 v, h.2) :=
  ⟨K.sb,
   K.sc,
   (show ma_up h.1 4 0 6 v 4 0 4 = h.1 4 0 4 from ma_up_ne (by omega)).trans K.doors,
   K.doors_le,
   (show ma_up h.1 4 0 6 v 4 0 5 = h.1 4 0 5 from ma_up_ne (by omega)).trans K.trucks,
   K.trucks_le,
   ma_up_self h.1 4 0 6 v,
   by
    show ma_up h.1 4 0 6 v 4 0 7 = 0 ∨ ma_up h.1 4 0 6 v 4 0 7 = 1
    rw [ma_up_ne (by omega)]
    exact K.ex,
   K.wait,
   fun t ht => by
    show inD (ma_up h.1 4 0 6 v 100 2 t)
    rw [ma_up_ne (by omega)]
    exact K.bd t ht,
   fun t ht => by
    show inD (ma_up h.1 4 0 6 v 100 1 t)
    rw [ma_up_ne (by omega)]
    exact K.cd t ht,
   fun t ht => by
    show inR 32 (ma_up h.1 4 0 6 v 100 0 t)
    rw [ma_up_ne (by omega)]
    exact K.sa t ht,
   K.fr.up (by omega)⟩
theorem KB.upDoors {G : GB} {h0 h : AH} {v : Int32}  (K : KB G h0 h) (hv : v = nI (G.1.1 + 1)) (hl : G.1.1 < 4) : KB ((G.1.1 + 1, G.1.2), G.2) h0 (ma_up h.1 4 0 4 v, h.2) :=
  ⟨K.sb,
   K.sc,
   (ma_up_self h.1 4 0 4 v).trans hv,
   hl,
   (show ma_up h.1 4 0 4 v 4 0 5 = h.1 4 0 5 from ma_up_ne (by omega)).trans K.trucks,
   K.trucks_le,
   (show ma_up h.1 4 0 4 v 4 0 6 = h.1 4 0 6 from ma_up_ne (by omega)).trans K.now,
   by
    show ma_up h.1 4 0 4 v 4 0 7 = 0 ∨ ma_up h.1 4 0 4 v 4 0 7 = 1
    rw [ma_up_ne (by omega)]
    exact K.ex,
   K.wait,
   fun t ht => by
    show inD (ma_up h.1 4 0 4 v 100 2 t)
    rw [ma_up_ne (by omega)]
    exact K.bd t ht,
   fun t ht => by
    show inD (ma_up h.1 4 0 4 v 100 1 t)
    rw [ma_up_ne (by omega)]
    exact K.cd t ht,
   fun t ht => by
    show inR 32 (ma_up h.1 4 0 4 v 100 0 t)
    rw [ma_up_ne (by omega)]
    exact K.sa t ht,
   K.fr.up (by omega)⟩
theorem KB.upTrucks {G : GB} {h0 h : AH} {v : Int32}  (K : KB G h0 h) (hv : v = nI (G.1.2 + 1)) (hl : G.1.2 < 12) : KB ((G.1.1, G.1.2 + 1), G.2) h0 (ma_up h.1 4 0 5 v, h.2) :=
  ⟨K.sb,
   K.sc,
   (show ma_up h.1 4 0 5 v 4 0 4 = h.1 4 0 4 from ma_up_ne (by omega)).trans K.doors,
   K.doors_le,
   (ma_up_self h.1 4 0 5 v).trans hv,
   hl,
   (show ma_up h.1 4 0 5 v 4 0 6 = h.1 4 0 6 from ma_up_ne (by omega)).trans K.now,
   by
    show ma_up h.1 4 0 5 v 4 0 7 = 0 ∨ ma_up h.1 4 0 5 v 4 0 7 = 1
    rw [ma_up_ne (by omega)]
    exact K.ex,
   K.wait,
   fun t ht => by
    show inD (ma_up h.1 4 0 5 v 100 2 t)
    rw [ma_up_ne (by omega)]
    exact K.bd t ht,
   fun t ht => by
    show inD (ma_up h.1 4 0 5 v 100 1 t)
    rw [ma_up_ne (by omega)]
    exact K.cd t ht,
   fun t ht => by
    show inR 32 (ma_up h.1 4 0 5 v 100 0 t)
    rw [ma_up_ne (by omega)]
    exact K.sa t ht,
   K.fr.up (by omega)⟩
/-- a waiting one is laid to a place of their row -/
theorem KB.upWait {G : GB} {h0 h : AH} {x j : Nat} (K : KB G h0 h) (hj : j < 12) : KB G h0 (h.1, ma_up h.2.1 113 1 x (some (3, j)), h.2.2) := by
  have e : ∀ c i k, ¬ (c = 113 ∧ i = 1) → ma_up h.2.1 113 1 x (some (3, j)) c i k = h.2.1 c i k := fun c i k h9 => ma_up_ne (by omega)
  refine ⟨⟨(e _ _ _ (by omega)).trans K.sb.1, (e _ _ _ (by omega)).trans K.sb.2.1, (e _ _ _ (by omega)).trans K.sb.2.2.1, (e _ _ _ (by omega)).trans K.sb.2.2.2.1, K.sb.2.2.2.2.1, K.sb.2.2.2.2.2.1, K.sb.2.2.2.2.2.2.1, fun i hi => (e _ _ _ (by omega)).trans (K.sb.door hi), fun i hi => (e _ _ _ (by omega)).trans (K.sb.truck hi)⟩,
    ⟨(e _ _ _ (by omega)).trans K.sc.orders, K.sc.lorders, (e _ _ _ (by omega)).trans K.sc.setAt, K.sc.lsetAt, (e _ _ _ (by omega)).trans K.sc.chosen, K.sc.lchosen, (e _ _ _ (by omega)).trans K.sc.best, K.sc.lbest, fun i hi => (e _ _ _ (by omega)).trans (K.sc.order i hi), fun i hi => (e _ _ _ (by omega)).trans (K.sc.costs i hi), K.sc.lcosts, fun i hi => (e _ _ _ (by omega)).trans (K.sc.bests i hi), K.sc.lbests, fun i hi => (e _ _ _ (by omega)).trans (K.sc.starts i hi), K.sc.lstarts⟩,
    K.doors, K.doors_le, K.trucks, K.trucks_le, K.now, K.ex, fun i hi => ?_, K.bd, K.cd, K.sa, K.fr.1, fun c i k hn => (e c i k hn).trans (K.fr.2.1 c i k hn), K.fr.2.2⟩
  show ∃ j', j' < 12 ∧ ma_up h.2.1 113 1 x (some (3, j)) 113 1 i = some (3, j')
  exact ma_up_cases (fun z => ∃ j', j' < 12 ∧ z = some (3, j')) (fun _ => ⟨j, hj, rfl⟩) (fun _ => K.wait i hi)
/-- the other one's writes leave it -/
theorem KB.keep {G : GB} {h0 h h1 : AH} (K : KB G h0 h) (F : FrR h h1) : KB G h1 h1 := by
  have e2 := F.2
  have e : ∀ c i k, c ≤ 4 ∨ (c = 100 ∧ i < 15) → h1.1 c i k = h.1 c i k := fun c i k h9 => F.1 c i k (by omega)
  obtain ⟨m1, r1⟩ := h1
  obtain ⟨m, r⟩ := h
  have e3 : r1 = r := e2
  subst e3
  exact ⟨K.sb, K.sc, (e _ _ _ (by omega)).trans K.doors, K.doors_le, (e _ _ _ (by omega)).trans K.trucks, K.trucks_le, (e _ _ _ (by omega)).trans K.now, (K.ex).imp (fun z => (e _ _ _ (by omega)).trans z) (fun z => (e _ _ _ (by omega)).trans z), K.wait, fun k hk => by
    show inD (m1 100 2 k)
    rw [show m1 100 2 k = m 100 2 k from e 100 2 k (by omega)]
    exact K.bd k hk, fun k hk => by
    show inD (m1 100 1 k)
    rw [show m1 100 1 k = m 100 1 k from e 100 1 k (by omega)]
    exact K.cd k hk, fun k hk => by
    show inR 32 (m1 100 0 k)
    rw [show m1 100 0 k = m 100 0 k from e 100 0 k (by omega)]
    exact K.sa k hk, FrB.rf⟩
theorem KR.keep {G : GR} {h0 h h1 : AH} (K : KR G h0 h) (F : FrB h h1) : KR G h1 h1 := by
  have e : ∀ c i k, c = 5 ∨ (c = 100 ∧ 15 ≤ i) ∨ c = 102 → h1.1 c i k = h.1 c i k := fun c i k h9 => F.1 c i k (by omega)
  have e2 : ∀ k, h1.2.1 5 0 k = h.2.1 5 0 k := fun k => F.2.1 5 0 k (by omega)
  have e3 : h1.2.2 = h.2.2 := F.2.2
  have e4 : ∀ c i, h1.2.2.2.1 c i = h.2.2.2.1 c i := fun c i => by rw [e3]
  refine ⟨?_, (e _ _ _ (by omega)).trans K.now, (e _ _ _ (by omega)).trans K.doors, K.doors_le, (e _ _ _ (by omega)).trans K.trucks, K.trucks_le, (e _ _ _ (by omega)).trans K.waits, K.waits_le, fun t => (e _ _ _ (by omega)).trans (K.state t), K.st4, K.fresh, fun t ht => ?_, fun t ht hs => ?_, ?_, fun t => (e _ _ _ (by omega)).trans (K.waiting t), K.wt12, fun t ht => ?_, FrR.rf⟩
  · exact ⟨(e2 _).trans K.r_kinds, (e4 _ _).trans K.l_kinds, (e2 _).trans K.r_opens, (e4 _ _).trans K.l_opens, (e2 _).trans K.r_closes, (e4 _ _).trans K.l_closes, (e2 _).trans K.r_isOut, (e4 _ _).trans K.l_isOut, (e2 _).trans K.r_left, (e4 _ _).trans K.l_left, (e2 _).trans K.r_state, (e4 _ _).trans K.l_state, (e2 _).trans K.r_kind, (e4 _ _).trans K.l_kind, (e2 _).trans K.r_arrival, (e4 _ _).trans K.l_arrival, (e2 _).trans K.r_need, (e4 _ _).trans K.l_need, (e2 _).trans K.r_ranks, (e4 _ _).trans K.l_ranks, (e2 _).trans K.r_doorOf, (e4 _ _).trans K.l_doorOf, (e2 _).trans K.r_start, (e4 _ _).trans K.l_start, (e2 _).trans K.r_gone, (e4 _ _).trans K.l_gone, (e2 _).trans K.r_seals, (e4 _ _).trans K.l_seals, (e2 _).trans K.r_twice, (e4 _ _).trans K.l_twice, (e2 _).trans K.r_same, (e4 _ _).trans K.l_same, (e2 _).trans K.r_waiting, (e4 _ _).trans K.l_waiting, (e2 _).trans K.r_newDoor, (e4 _ _).trans K.l_newDoor, (e2 _).trans K.r_newStart, (e4 _ _).trans K.l_newStart, (e2 _).trans K.r_setCost, (e4 _ _).trans K.l_setCost, (e2 _).trans K.r_setStart, (e4 _ _).trans K.l_setStart, (e2 _).trans K.r_trial, (e4 _ _).trans K.l_trial, (e2 _).trans K.r_counts, (e4 _ _).trans K.l_counts⟩
  · rw [e _ _ _ (by omega)]; exact K.doorOf t ht
  · rw [e _ _ _ (by omega)]; exact K.atd t ht hs
  · rw [e _ _ _ (by omega)]; exact K.ex
  · rw [e _ _ _ (by omega)]; exact K.newDoor t ht
end
section
/-! THE REFERENCE, 1: what it reads -/
set_option maxHeartbeats 1000000 in
theorem g_Mo_not {sc : Nat × (Nat → Int32)} {d bc bs : Nat} {h : AH} (x lo hi : Int32) : Go sc true false d bc bs mMo_not 0 [vI x, vI lo, vI hi] [] h (rP (fun v => (v = 0 ∧ (lo ≤ x ∧ x ≤ hi)) ∨ (v = 1 ∧ ¬ (lo ≤ x ∧ x ≤ hi))) h) := by
  refine Go.iload_n dMo_not_0 rfl ?_
  refine Go.iload_n dMo_not_1 rfl ?_
  refine Go.icmp_lt (tgt := 10) dMo_not_2 (by decide) (fun q1 => ?_) (fun q1 => ?_)
  · refine Go.iconst (v := nI 1) dMo_not_10 (by decide) ?_
    refine Go.goto (tgt := 15) dMo_not_11 (by decide) ?_
    refine Go.iret dMo_not_15 rfl rfl (by decide) ?_
    first
      | exact ⟨_, rfl, Or.inl ⟨rfl, by first | (constructor <;> first | assumption | (apply Int32.not_lt.mp; assumption))⟩, rfl⟩
      | exact ⟨_, rfl, Or.inr ⟨rfl, by rintro ⟨z1, z2⟩; first | contradiction | (exact absurd z1 (Int32.not_le.mpr (by assumption)))⟩, rfl⟩
  · refine Go.iload_n dMo_not_5 rfl ?_
    refine Go.iload_n dMo_not_6 rfl ?_
    refine Go.icmp_le (tgt := 14) dMo_not_7 (by decide) (fun q2 => ?_) (fun q2 => ?_)
    · refine Go.iconst (v := nI 0) dMo_not_14 (by decide) ?_
      refine Go.iret dMo_not_15 rfl rfl (by decide) ?_
      first
        | exact ⟨_, rfl, Or.inl ⟨rfl, by first | (constructor <;> first | assumption | (apply Int32.not_lt.mp; assumption))⟩, rfl⟩
        | exact ⟨_, rfl, Or.inr ⟨rfl, by rintro ⟨z1, z2⟩; first | contradiction | (exact absurd z1 (Int32.not_le.mpr (by assumption)))⟩, rfl⟩
    · refine Go.iconst (v := nI 1) dMo_not_10 (by decide) ?_
      refine Go.goto (tgt := 15) dMo_not_11 (by decide) ?_
      refine Go.iret dMo_not_15 rfl rfl (by decide) ?_
      first
        | exact ⟨_, rfl, Or.inl ⟨rfl, by first | (constructor <;> first | assumption | (apply Int32.not_lt.mp; assumption))⟩, rfl⟩
        | exact ⟨_, rfl, Or.inr ⟨rfl, by rintro ⟨z1, z2⟩; first | contradiction | (exact absurd z1 (Int32.not_le.mpr (by assumption)))⟩, rfl⟩
set_option maxHeartbeats 2000000 in
theorem g_Mo_noTruck {sc : Nat × (Nat → Int32)} {d bc bs : Nat} {md mt wn : Nat} {nw : Int32} {stf wtf : Nat → Int32} {h0 : AH} {h : AH} (K : KR ((md, mt, wn), nw, stf, wtf) h0 h) (x : Int32) : Go sc true false (d + 0) bc bs mMo_noTruck 0 [vO 5 (0), vI x] [] h (rP (fun v => (v = 0 ∧ ∃ j : Nat, j < mt ∧ x = nI j) ∨ (v = 1 ∧ (x < 0 ∨ nI mt ≤ x))) h) := by
  have b_md : md ≤ 4 := K.doors_le
  have b_mt : mt ≤ 12 := K.trucks_le
  have b_wn : wn ≤ 12 := K.waits_le
  refine Go.iload_n dMo_noTruck_0 rfl ?_
  refine Go.if_lt (tgt := 12) dMo_noTruck_1 (by decide) (fun q3 => ?_) (fun q3 => ?_)
  · refine Go.iconst (v := nI 1) dMo_noTruck_12 (by decide) ?_
    refine Go.goto (tgt := 17) dMo_noTruck_13 (by decide) ?_
    refine Go.iret dMo_noTruck_17 rfl rfl (by decide) ?_
    first
      | exact ⟨_, rfl, Or.inr ⟨rfl, Or.inl (by assumption)⟩, rfl⟩
      | exact ⟨_, rfl, Or.inr ⟨rfl, Or.inr (Int32.not_lt.mp (by assumption))⟩, rfl⟩
      | (refine ⟨_, rfl, Or.inl ⟨rfl, ?_⟩, rfl⟩
         rcases pk_ix x (n := mt) (by omega) with z | z | z
         · contradiction
         · exact absurd z (Int32.not_le.mpr (by assumption))
         · exact z)
  · refine Go.iload_n dMo_noTruck_4 rfl ?_
    refine Go.aload_n dMo_noTruck_5 rfl (Nat.ne_of_beq_eq_false rfl) ?_
    refine Go.getIv (v := nI (mt)) dMo_noTruck_6 flMo_36 (Nat.le_of_ble_eq_true rfl) rfl K.trucks ?_
    refine Go.icmp_lt (tgt := 16) dMo_noTruck_9 (by decide) (fun q4 => ?_) (fun q4 => ?_)
    · refine Go.iconst (v := nI 0) dMo_noTruck_16 (by decide) ?_
      refine Go.iret dMo_noTruck_17 rfl rfl (by decide) ?_
      first
        | exact ⟨_, rfl, Or.inr ⟨rfl, Or.inl (by assumption)⟩, rfl⟩
        | exact ⟨_, rfl, Or.inr ⟨rfl, Or.inr (Int32.not_lt.mp (by assumption))⟩, rfl⟩
        | (refine ⟨_, rfl, Or.inl ⟨rfl, ?_⟩, rfl⟩
           rcases pk_ix x (n := mt) (by omega) with z | z | z
           · contradiction
           · exact absurd z (Int32.not_le.mpr (by assumption))
           · exact z)
    · refine Go.iconst (v := nI 1) dMo_noTruck_12 (by decide) ?_
      refine Go.goto (tgt := 17) dMo_noTruck_13 (by decide) ?_
      refine Go.iret dMo_noTruck_17 rfl rfl (by decide) ?_
      first
        | exact ⟨_, rfl, Or.inr ⟨rfl, Or.inl (by assumption)⟩, rfl⟩
        | exact ⟨_, rfl, Or.inr ⟨rfl, Or.inr (Int32.not_lt.mp (by assumption))⟩, rfl⟩
        | (refine ⟨_, rfl, Or.inl ⟨rfl, ?_⟩, rfl⟩
           rcases pk_ix x (n := mt) (by omega) with z | z | z
           · contradiction
           · exact absurd z (Int32.not_le.mpr (by assumption))
           · exact z)
set_option maxHeartbeats 2000000 in
theorem g_Mo_noDoor {sc : Nat × (Nat → Int32)} {d bc bs : Nat} {md mt wn : Nat} {nw : Int32} {stf wtf : Nat → Int32} {h0 : AH} {h : AH} (K : KR ((md, mt, wn), nw, stf, wtf) h0 h) (x : Int32) : Go sc true false (d + 0) bc bs mMo_noDoor 0 [vO 5 (0), vI x] [] h (rP (fun v => (v = 0 ∧ ∃ j : Nat, j < md ∧ x = nI j) ∨ (v = 1 ∧ (x < 0 ∨ nI md ≤ x))) h) := by
  have b_md : md ≤ 4 := K.doors_le
  have b_mt : mt ≤ 12 := K.trucks_le
  have b_wn : wn ≤ 12 := K.waits_le
  refine Go.iload_n dMo_noDoor_0 rfl ?_
  refine Go.if_lt (tgt := 12) dMo_noDoor_1 (by decide) (fun q5 => ?_) (fun q5 => ?_)
  · refine Go.iconst (v := nI 1) dMo_noDoor_12 (by decide) ?_
    refine Go.goto (tgt := 17) dMo_noDoor_13 (by decide) ?_
    refine Go.iret dMo_noDoor_17 rfl rfl (by decide) ?_
    first
      | exact ⟨_, rfl, Or.inr ⟨rfl, Or.inl (by assumption)⟩, rfl⟩
      | exact ⟨_, rfl, Or.inr ⟨rfl, Or.inr (Int32.not_lt.mp (by assumption))⟩, rfl⟩
      | (refine ⟨_, rfl, Or.inl ⟨rfl, ?_⟩, rfl⟩
         rcases pk_ix x (n := md) (by omega) with z | z | z
         · contradiction
         · exact absurd z (Int32.not_le.mpr (by assumption))
         · exact z)
  · refine Go.iload_n dMo_noDoor_4 rfl ?_
    refine Go.aload_n dMo_noDoor_5 rfl (Nat.ne_of_beq_eq_false rfl) ?_
    refine Go.getIv (v := nI (md)) dMo_noDoor_6 flMo_16 (Nat.le_of_ble_eq_true rfl) rfl K.doors ?_
    refine Go.icmp_lt (tgt := 16) dMo_noDoor_9 (by decide) (fun q6 => ?_) (fun q6 => ?_)
    · refine Go.iconst (v := nI 0) dMo_noDoor_16 (by decide) ?_
      refine Go.iret dMo_noDoor_17 rfl rfl (by decide) ?_
      first
        | exact ⟨_, rfl, Or.inr ⟨rfl, Or.inl (by assumption)⟩, rfl⟩
        | exact ⟨_, rfl, Or.inr ⟨rfl, Or.inr (Int32.not_lt.mp (by assumption))⟩, rfl⟩
        | (refine ⟨_, rfl, Or.inl ⟨rfl, ?_⟩, rfl⟩
           rcases pk_ix x (n := md) (by omega) with z | z | z
           · contradiction
           · exact absurd z (Int32.not_le.mpr (by assumption))
           · exact z)
    · refine Go.iconst (v := nI 1) dMo_noDoor_12 (by decide) ?_
      refine Go.goto (tgt := 17) dMo_noDoor_13 (by decide) ?_
      refine Go.iret dMo_noDoor_17 rfl rfl (by decide) ?_
      first
        | exact ⟨_, rfl, Or.inr ⟨rfl, Or.inl (by assumption)⟩, rfl⟩
        | exact ⟨_, rfl, Or.inr ⟨rfl, Or.inr (Int32.not_lt.mp (by assumption))⟩, rfl⟩
        | (refine ⟨_, rfl, Or.inl ⟨rfl, ?_⟩, rfl⟩
           rcases pk_ix x (n := md) (by omega) with z | z | z
           · contradiction
           · exact absurd z (Int32.not_le.mpr (by assumption))
           · exact z)
set_option maxHeartbeats 2000000 in
theorem lp_Mo_at_2 {sc : Nat × (Nat → Int32)} {d bc bs : Nat} {md mt wn : Nat} {nw : Int32} {stf wtf : Nat → Int32} {h0 : AH} {h : AH} {Q : GO → AH → Prop} (x : Int32) (hQ1 : ∀ j : Nat, j < mt → Q (.inl (some (vI (nI j)))) h) (hQ2 : Q (.inl (some (vI (-1)))) h) (K : KR ((md, mt, wn), nw, stf, wtf) h0 h)  : ∀ (k0 : Nat) (t : Nat), (t ≤ mt) → mt - t ≤ k0 → Go sc false false (d + 0) bc bs mMo_at 2 [vO 5 (0), vI x, vI (nI (t))] [] h Q := by
  intro k0
  induction k0 using Nat.strongRecOn with
  | _ k0 ih =>
    intro t ht hk0
    have b_md : md ≤ 4 := K.doors_le
    have b_mt : mt ≤ 12 := K.trucks_le
    have b_wn : wn ≤ 12 := K.waits_le
    refine Go.iload_n dMo_at_2 rfl ?_
    refine Go.aload_n dMo_at_3 rfl (Nat.ne_of_beq_eq_false rfl) ?_
    refine Go.getIv (v := nI (mt)) dMo_at_4 flMo_36 (Nat.le_of_ble_eq_true rfl) rfl K.trucks ?_
    refine Go.icmp_ge (tgt := 38) dMo_at_7 (by decide) (fun q7 => ?_) (fun q7 => ?_)
    · replace q7 := tle q7 (by omega) (by omega)
      refine Go.iconst (v := -1) dMo_at_38 (by decide) ?_
      refine Go.iret dMo_at_39 rfl rfl (by decide) ?_
      exact hQ2
    · replace q7 := tnle q7 (by omega) (by omega)
      refine Go.aload_n dMo_at_10 rfl (Nat.ne_of_beq_eq_false rfl) ?_
      refine Go.getR dMo_at_11 flMo_39 (Nat.le_of_ble_eq_true rfl) rfl K.r_state ?_
      refine Go.iload_n dMo_at_14 rfl ?_
      refine Go.ialdv (v := ((stf (t)))) (jn := t) dMo_at_15 rfl (Nat.lt_of_lt_of_eq (by omega) (K.l_state).symm) (by omega) (K.state (t)) ?_
      refine Go.iconst (v := nI 1) dMo_at_16 (by decide) ?_
      refine Go.icmp_ne (tgt := 32) dMo_at_17 (by decide) (fun q9 => ?_) (fun q9 => ?_)
      · refine Go.iinc (v := nI (t + 1)) dMo_at_32 (by decide) rfl (nI_inc _) rfl ?_
        refine Go.goto (tgt := 2) dMo_at_35 (by decide) ?_
        exact Go.weak (ih (mt - ((t + 1))) (by omega) ((t + 1))  (by omega) (Nat.le_refl _))
      · refine Go.aload_n dMo_at_20 rfl (Nat.ne_of_beq_eq_false rfl) ?_
        refine Go.getR dMo_at_21 flMo_54 (Nat.le_of_ble_eq_true rfl) rfl K.r_doorOf ?_
        refine Go.iload_n dMo_at_24 rfl ?_
        refine Go.iald (jn := t) dMo_at_25 rfl (Nat.lt_of_lt_of_eq (by omega) (K.l_doorOf).symm) (by omega) ?_
        refine Go.iload_n dMo_at_26 rfl ?_
        refine Go.icmp_ne (tgt := 32) dMo_at_27 (by decide) (fun q10 => ?_) (fun q10 => ?_)
        · refine Go.iinc (v := nI (t + 1)) dMo_at_32 (by decide) rfl (nI_inc _) rfl ?_
          refine Go.goto (tgt := 2) dMo_at_35 (by decide) ?_
          exact Go.weak (ih (mt - ((t + 1))) (by omega) ((t + 1))  (by omega) (Nat.le_refl _))
        · refine Go.iload_n dMo_at_30 rfl ?_
          refine Go.iret dMo_at_31 rfl rfl (by decide) ?_
          exact hQ1 _ (by omega)
set_option maxHeartbeats 2000000 in
theorem g_Mo_at {sc : Nat × (Nat → Int32)} {d bc bs : Nat} {md mt wn : Nat} {nw : Int32} {stf wtf : Nat → Int32} {h0 : AH} {h : AH} (K : KR ((md, mt, wn), nw, stf, wtf) h0 h) (x : Int32) : Go sc true false (d + 0) bc bs mMo_at 0 [vO 5 (0), vI x, vU] [] h (rP (fun v => v = -1 ∨ ∃ j : Nat, j < mt ∧ v = nI j) h) := by
  have b_md : md ≤ 4 := K.doors_le
  have b_mt : mt ≤ 12 := K.trucks_le
  have b_wn : wn ≤ 12 := K.waits_le
  refine Go.iconst (v := nI 0) dMo_at_0 (by decide) ?_
  refine Go.istore_n dMo_at_1 (by decide) rfl ?_
  exact Go.weak (lp_Mo_at_2 x (fun j hj => ⟨_, rfl, Or.inr ⟨j, hj, rfl⟩, rfl⟩) ⟨_, rfl, Or.inl rfl, rfl⟩ K _ 0 (by omega) (Nat.le_refl _))
set_option maxHeartbeats 2000000 in
theorem g_Mo_freeFrom {sc : Nat × (Nat → Int32)} {d bc bs : Nat} {md mt wn : Nat} {nw : Int32} {stf wtf : Nat → Int32} {h0 : AH} {h : AH} (K : KR ((md, mt, wn), nw, stf, wtf) h0 h) (x : Int32) : Go sc true false (d + 1) bc bs mMo_freeFrom 0 [vO 5 (0), vI x, vU, vU] [] h (rP (fun _ => True) h) := by
  have b_md : md ≤ 4 := K.doors_le
  have b_mt : mt ≤ 12 := K.trucks_le
  have b_wn : wn ≤ 12 := K.waits_le
  refine Go.aload_n dMo_freeFrom_0 rfl (Nat.ne_of_beq_eq_false rfl) ?_
  refine Go.iload_n dMo_freeFrom_1 rfl ?_
  refine Go.cVr mMo_at [vI x] dMo_freeFrom_2 vwMo_103 (Nat.le_of_ble_eq_true rfl) rfl rfl (Nat.le_of_ble_eq_true rfl) rfl (Nat.le_of_ble_eq_true rfl) (g_Mo_at K _  ) ?_
  rintro v11 (rfl | ⟨t11, ht11, rfl⟩)
  · refine Go.istore_n dMo_freeFrom_5 (by decide) rfl ?_
    refine Go.iload_n dMo_freeFrom_6 rfl ?_
    refine Go.if_ge (tgt := 14) dMo_freeFrom_7 (by decide) (fun q12 => ?_) (fun q12 => ?_)
    · exact absurd q12 (by decide)
    · refine Go.iconst (v := nI 0) dMo_freeFrom_10 (by decide) ?_
      refine Go.goto (tgt := 27) dMo_freeFrom_11 (by decide) ?_
      refine Go.istore_n dMo_freeFrom_27 (by decide) rfl ?_
      refine Go.iload_n dMo_freeFrom_28 rfl ?_
      refine Go.aload_n dMo_freeFrom_29 rfl (Nat.ne_of_beq_eq_false rfl) ?_
      refine Go.getIv (v := (nw)) dMo_freeFrom_30 flMo_13 (Nat.le_of_ble_eq_true rfl) rfl K.now ?_
      refine Go.icmp_le (tgt := 40) dMo_freeFrom_33 (by decide) (fun q13 => ?_) (fun q13 => ?_)
      · refine Go.aload_n dMo_freeFrom_40 rfl (Nat.ne_of_beq_eq_false rfl) ?_
        refine Go.getIv (v := (nw)) dMo_freeFrom_41 flMo_13 (Nat.le_of_ble_eq_true rfl) rfl K.now ?_
        refine Go.iret dMo_freeFrom_44 rfl rfl (by decide) ?_
        exact ⟨_, rfl, trivial, rfl⟩
      · refine Go.iload_n dMo_freeFrom_36 rfl ?_
        refine Go.goto (tgt := 44) dMo_freeFrom_37 (by decide) ?_
        refine Go.iret dMo_freeFrom_44 rfl rfl (by decide) ?_
        exact ⟨_, rfl, trivial, rfl⟩
  · refine Go.istore_n dMo_freeFrom_5 (by decide) rfl ?_
    refine Go.iload_n dMo_freeFrom_6 rfl ?_
    refine Go.if_ge (tgt := 14) dMo_freeFrom_7 (by decide) (fun q14 => ?_) (fun q14 => ?_)
    · refine Go.aload_n dMo_freeFrom_14 rfl (Nat.ne_of_beq_eq_false rfl) ?_
      refine Go.getR dMo_freeFrom_15 flMo_57 (Nat.le_of_ble_eq_true rfl) rfl K.r_start ?_
      refine Go.iload_n dMo_freeFrom_18 rfl ?_
      refine Go.iald (jn := t11) dMo_freeFrom_19 rfl (Nat.lt_of_lt_of_eq (by omega) (K.l_start).symm) (by omega) ?_
      refine Go.aload_n dMo_freeFrom_20 rfl (Nat.ne_of_beq_eq_false rfl) ?_
      refine Go.getR dMo_freeFrom_21 flMo_48 (Nat.le_of_ble_eq_true rfl) rfl K.r_need ?_
      refine Go.iload_n dMo_freeFrom_24 rfl ?_
      refine Go.iald (jn := t11) dMo_freeFrom_25 rfl (Nat.lt_of_lt_of_eq (by omega) (K.l_need).symm) (by omega) ?_
      refine Go.iadd dMo_freeFrom_26 ?_
      refine Go.istore_n dMo_freeFrom_27 (by decide) rfl ?_
      refine Go.iload_n dMo_freeFrom_28 rfl ?_
      refine Go.aload_n dMo_freeFrom_29 rfl (Nat.ne_of_beq_eq_false rfl) ?_
      refine Go.getIv (v := (nw)) dMo_freeFrom_30 flMo_13 (Nat.le_of_ble_eq_true rfl) rfl K.now ?_
      refine Go.icmp_le (tgt := 40) dMo_freeFrom_33 (by decide) (fun q15 => ?_) (fun q15 => ?_)
      · refine Go.aload_n dMo_freeFrom_40 rfl (Nat.ne_of_beq_eq_false rfl) ?_
        refine Go.getIv (v := (nw)) dMo_freeFrom_41 flMo_13 (Nat.le_of_ble_eq_true rfl) rfl K.now ?_
        refine Go.iret dMo_freeFrom_44 rfl rfl (by decide) ?_
        exact ⟨_, rfl, trivial, rfl⟩
      · refine Go.iload_n dMo_freeFrom_36 rfl ?_
        refine Go.goto (tgt := 44) dMo_freeFrom_37 (by decide) ?_
        refine Go.iret dMo_freeFrom_44 rfl rfl (by decide) ?_
        exact ⟨_, rfl, trivial, rfl⟩
    · exact absurd (nI_pos' (by omega)) q14
set_option maxHeartbeats 2000000 in
theorem g_Mo_startAt {sc : Nat × (Nat → Int32)} {d bc bs : Nat} {md mt wn : Nat} {nw : Int32} {stf wtf : Nat → Int32} {h0 : AH} {h : AH} (K : KR ((md, mt, wn), nw, stf, wtf) h0 h) (t q : Nat) (x : Int32) (ht : t < 12) (hq : q < 4) : Go sc true false (d + 0) bc bs mMo_startAt 0 [vO 5 (0), vI (nI (t)), vI (nI (q)), vI x, vU] [] h (rP (fun _ => True) h) := by
  have b_md : md ≤ 4 := K.doors_le
  have b_mt : mt ≤ 12 := K.trucks_le
  have b_wn : wn ≤ 12 := K.waits_le
  refine Go.aload_n dMo_startAt_0 rfl (Nat.ne_of_beq_eq_false rfl) ?_
  refine Go.getR dMo_startAt_1 flMo_29 (Nat.le_of_ble_eq_true rfl) rfl K.r_isOut ?_
  refine Go.iload_n dMo_startAt_4 rfl ?_
  refine Go.zald (jn := q) dMo_startAt_5 rfl (Nat.lt_of_lt_of_eq (by omega) (K.l_isOut).symm) (by omega) ?_
  refine Go.if_ne (tgt := 27) dMo_startAt_6 (by decide) (fun q16 => ?_) (fun q16 => ?_)
  · refine Go.iconst (v := -1) dMo_startAt_27 (by decide) ?_
    refine Go.iret dMo_startAt_28 rfl rfl (by decide) ?_
    exact ⟨_, rfl, trivial, rfl⟩
  · refine Go.aload_n dMo_startAt_9 rfl (Nat.ne_of_beq_eq_false rfl) ?_
    refine Go.getR dMo_startAt_10 flMo_19 (Nat.le_of_ble_eq_true rfl) rfl K.r_kinds ?_
    refine Go.iload_n dMo_startAt_13 rfl ?_
    refine Go.iald (jn := q) dMo_startAt_14 rfl (Nat.lt_of_lt_of_eq (by omega) (K.l_kinds).symm) (by omega) ?_
    refine Go.aload_n dMo_startAt_15 rfl (Nat.ne_of_beq_eq_false rfl) ?_
    refine Go.getR dMo_startAt_16 flMo_42 (Nat.le_of_ble_eq_true rfl) rfl K.r_kind ?_
    refine Go.iload_n dMo_startAt_19 rfl ?_
    refine Go.iald (jn := t) dMo_startAt_20 rfl (Nat.lt_of_lt_of_eq (by omega) (K.l_kind).symm) (by omega) ?_
    refine Go.ishr dMo_startAt_21 ?_
    refine Go.iconst (v := nI 1) dMo_startAt_22 (by decide) ?_
    refine Go.iand dMo_startAt_23 ?_
    refine Go.if_ne (tgt := 29) dMo_startAt_24 (by decide) (fun q17 => ?_) (fun q17 => ?_)
    · refine Go.iload_n dMo_startAt_29 rfl ?_
      refine Go.istore dMo_startAt_30 (by decide) rfl ?_
      refine Go.aload_n dMo_startAt_32 rfl (Nat.ne_of_beq_eq_false rfl) ?_
      refine Go.getR dMo_startAt_33 flMo_45 (Nat.le_of_ble_eq_true rfl) rfl K.r_arrival ?_
      refine Go.iload_n dMo_startAt_36 rfl ?_
      refine Go.iald (jn := t) dMo_startAt_37 rfl (Nat.lt_of_lt_of_eq (by omega) (K.l_arrival).symm) (by omega) ?_
      refine Go.iload dMo_startAt_38 rfl ?_
      refine Go.icmp_le (tgt := 51) dMo_startAt_40 (by decide) (fun q18 => ?_) (fun q18 => ?_)
      · refine Go.aload_n dMo_startAt_51 rfl (Nat.ne_of_beq_eq_false rfl) ?_
        refine Go.getR dMo_startAt_52 flMo_23 (Nat.le_of_ble_eq_true rfl) rfl K.r_opens ?_
        refine Go.iload_n dMo_startAt_55 rfl ?_
        refine Go.iald (jn := q) dMo_startAt_56 rfl (Nat.lt_of_lt_of_eq (by omega) (K.l_opens).symm) (by omega) ?_
        refine Go.iload dMo_startAt_57 rfl ?_
        refine Go.icmp_le (tgt := 70) dMo_startAt_59 (by decide) (fun q19 => ?_) (fun q19 => ?_)
        · refine Go.aload_n dMo_startAt_70 rfl (Nat.ne_of_beq_eq_false rfl) ?_
          refine Go.getIv (v := (nw)) dMo_startAt_71 flMo_13 (Nat.le_of_ble_eq_true rfl) rfl K.now ?_
          refine Go.iload dMo_startAt_74 rfl ?_
          refine Go.icmp_le (tgt := 85) dMo_startAt_76 (by decide) (fun q20 => ?_) (fun q20 => ?_)
          · refine Go.iload dMo_startAt_85 rfl ?_
            refine Go.aload_n dMo_startAt_87 rfl (Nat.ne_of_beq_eq_false rfl) ?_
            refine Go.getR dMo_startAt_88 flMo_48 (Nat.le_of_ble_eq_true rfl) rfl K.r_need ?_
            refine Go.iload_n dMo_startAt_91 rfl ?_
            refine Go.iald (jn := t) dMo_startAt_92 rfl (Nat.lt_of_lt_of_eq (by omega) (K.l_need).symm) (by omega) ?_
            refine Go.iadd dMo_startAt_93 ?_
            refine Go.aload_n dMo_startAt_94 rfl (Nat.ne_of_beq_eq_false rfl) ?_
            refine Go.getR dMo_startAt_95 flMo_26 (Nat.le_of_ble_eq_true rfl) rfl K.r_closes ?_
            refine Go.iload_n dMo_startAt_98 rfl ?_
            refine Go.iald (jn := q) dMo_startAt_99 rfl (Nat.lt_of_lt_of_eq (by omega) (K.l_closes).symm) (by omega) ?_
            refine Go.icmp_le (tgt := 107) dMo_startAt_100 (by decide) (fun q21 => ?_) (fun q21 => ?_)
            · refine Go.iload dMo_startAt_107 rfl ?_
              refine Go.iret dMo_startAt_109 rfl rfl (by decide) ?_
              exact ⟨_, rfl, trivial, rfl⟩
            · refine Go.iconst (v := -1) dMo_startAt_103 (by decide) ?_
              refine Go.goto (tgt := 109) dMo_startAt_104 (by decide) ?_
              refine Go.iret dMo_startAt_109 rfl rfl (by decide) ?_
              exact ⟨_, rfl, trivial, rfl⟩
          · refine Go.aload_n dMo_startAt_79 rfl (Nat.ne_of_beq_eq_false rfl) ?_
            refine Go.getIv (v := (nw)) dMo_startAt_80 flMo_13 (Nat.le_of_ble_eq_true rfl) rfl K.now ?_
            refine Go.istore dMo_startAt_83 (by decide) rfl ?_
            refine Go.iload dMo_startAt_85 rfl ?_
            refine Go.aload_n dMo_startAt_87 rfl (Nat.ne_of_beq_eq_false rfl) ?_
            refine Go.getR dMo_startAt_88 flMo_48 (Nat.le_of_ble_eq_true rfl) rfl K.r_need ?_
            refine Go.iload_n dMo_startAt_91 rfl ?_
            refine Go.iald (jn := t) dMo_startAt_92 rfl (Nat.lt_of_lt_of_eq (by omega) (K.l_need).symm) (by omega) ?_
            refine Go.iadd dMo_startAt_93 ?_
            refine Go.aload_n dMo_startAt_94 rfl (Nat.ne_of_beq_eq_false rfl) ?_
            refine Go.getR dMo_startAt_95 flMo_26 (Nat.le_of_ble_eq_true rfl) rfl K.r_closes ?_
            refine Go.iload_n dMo_startAt_98 rfl ?_
            refine Go.iald (jn := q) dMo_startAt_99 rfl (Nat.lt_of_lt_of_eq (by omega) (K.l_closes).symm) (by omega) ?_
            refine Go.icmp_le (tgt := 107) dMo_startAt_100 (by decide) (fun q22 => ?_) (fun q22 => ?_)
            · refine Go.iload dMo_startAt_107 rfl ?_
              refine Go.iret dMo_startAt_109 rfl rfl (by decide) ?_
              exact ⟨_, rfl, trivial, rfl⟩
            · refine Go.iconst (v := -1) dMo_startAt_103 (by decide) ?_
              refine Go.goto (tgt := 109) dMo_startAt_104 (by decide) ?_
              refine Go.iret dMo_startAt_109 rfl rfl (by decide) ?_
              exact ⟨_, rfl, trivial, rfl⟩
        · refine Go.aload_n dMo_startAt_62 rfl (Nat.ne_of_beq_eq_false rfl) ?_
          refine Go.getR dMo_startAt_63 flMo_23 (Nat.le_of_ble_eq_true rfl) rfl K.r_opens ?_
          refine Go.iload_n dMo_startAt_66 rfl ?_
          refine Go.iald (jn := q) dMo_startAt_67 rfl (Nat.lt_of_lt_of_eq (by omega) (K.l_opens).symm) (by omega) ?_
          refine Go.istore dMo_startAt_68 (by decide) rfl ?_
          refine Go.aload_n dMo_startAt_70 rfl (Nat.ne_of_beq_eq_false rfl) ?_
          refine Go.getIv (v := (nw)) dMo_startAt_71 flMo_13 (Nat.le_of_ble_eq_true rfl) rfl K.now ?_
          refine Go.iload dMo_startAt_74 rfl ?_
          refine Go.icmp_le (tgt := 85) dMo_startAt_76 (by decide) (fun q23 => ?_) (fun q23 => ?_)
          · refine Go.iload dMo_startAt_85 rfl ?_
            refine Go.aload_n dMo_startAt_87 rfl (Nat.ne_of_beq_eq_false rfl) ?_
            refine Go.getR dMo_startAt_88 flMo_48 (Nat.le_of_ble_eq_true rfl) rfl K.r_need ?_
            refine Go.iload_n dMo_startAt_91 rfl ?_
            refine Go.iald (jn := t) dMo_startAt_92 rfl (Nat.lt_of_lt_of_eq (by omega) (K.l_need).symm) (by omega) ?_
            refine Go.iadd dMo_startAt_93 ?_
            refine Go.aload_n dMo_startAt_94 rfl (Nat.ne_of_beq_eq_false rfl) ?_
            refine Go.getR dMo_startAt_95 flMo_26 (Nat.le_of_ble_eq_true rfl) rfl K.r_closes ?_
            refine Go.iload_n dMo_startAt_98 rfl ?_
            refine Go.iald (jn := q) dMo_startAt_99 rfl (Nat.lt_of_lt_of_eq (by omega) (K.l_closes).symm) (by omega) ?_
            refine Go.icmp_le (tgt := 107) dMo_startAt_100 (by decide) (fun q24 => ?_) (fun q24 => ?_)
            · refine Go.iload dMo_startAt_107 rfl ?_
              refine Go.iret dMo_startAt_109 rfl rfl (by decide) ?_
              exact ⟨_, rfl, trivial, rfl⟩
            · refine Go.iconst (v := -1) dMo_startAt_103 (by decide) ?_
              refine Go.goto (tgt := 109) dMo_startAt_104 (by decide) ?_
              refine Go.iret dMo_startAt_109 rfl rfl (by decide) ?_
              exact ⟨_, rfl, trivial, rfl⟩
          · refine Go.aload_n dMo_startAt_79 rfl (Nat.ne_of_beq_eq_false rfl) ?_
            refine Go.getIv (v := (nw)) dMo_startAt_80 flMo_13 (Nat.le_of_ble_eq_true rfl) rfl K.now ?_
            refine Go.istore dMo_startAt_83 (by decide) rfl ?_
            refine Go.iload dMo_startAt_85 rfl ?_
            refine Go.aload_n dMo_startAt_87 rfl (Nat.ne_of_beq_eq_false rfl) ?_
            refine Go.getR dMo_startAt_88 flMo_48 (Nat.le_of_ble_eq_true rfl) rfl K.r_need ?_
            refine Go.iload_n dMo_startAt_91 rfl ?_
            refine Go.iald (jn := t) dMo_startAt_92 rfl (Nat.lt_of_lt_of_eq (by omega) (K.l_need).symm) (by omega) ?_
            refine Go.iadd dMo_startAt_93 ?_
            refine Go.aload_n dMo_startAt_94 rfl (Nat.ne_of_beq_eq_false rfl) ?_
            refine Go.getR dMo_startAt_95 flMo_26 (Nat.le_of_ble_eq_true rfl) rfl K.r_closes ?_
            refine Go.iload_n dMo_startAt_98 rfl ?_
            refine Go.iald (jn := q) dMo_startAt_99 rfl (Nat.lt_of_lt_of_eq (by omega) (K.l_closes).symm) (by omega) ?_
            refine Go.icmp_le (tgt := 107) dMo_startAt_100 (by decide) (fun q25 => ?_) (fun q25 => ?_)
            · refine Go.iload dMo_startAt_107 rfl ?_
              refine Go.iret dMo_startAt_109 rfl rfl (by decide) ?_
              exact ⟨_, rfl, trivial, rfl⟩
            · refine Go.iconst (v := -1) dMo_startAt_103 (by decide) ?_
              refine Go.goto (tgt := 109) dMo_startAt_104 (by decide) ?_
              refine Go.iret dMo_startAt_109 rfl rfl (by decide) ?_
              exact ⟨_, rfl, trivial, rfl⟩
      · refine Go.aload_n dMo_startAt_43 rfl (Nat.ne_of_beq_eq_false rfl) ?_
        refine Go.getR dMo_startAt_44 flMo_45 (Nat.le_of_ble_eq_true rfl) rfl K.r_arrival ?_
        refine Go.iload_n dMo_startAt_47 rfl ?_
        refine Go.iald (jn := t) dMo_startAt_48 rfl (Nat.lt_of_lt_of_eq (by omega) (K.l_arrival).symm) (by omega) ?_
        refine Go.istore dMo_startAt_49 (by decide) rfl ?_
        refine Go.aload_n dMo_startAt_51 rfl (Nat.ne_of_beq_eq_false rfl) ?_
        refine Go.getR dMo_startAt_52 flMo_23 (Nat.le_of_ble_eq_true rfl) rfl K.r_opens ?_
        refine Go.iload_n dMo_startAt_55 rfl ?_
        refine Go.iald (jn := q) dMo_startAt_56 rfl (Nat.lt_of_lt_of_eq (by omega) (K.l_opens).symm) (by omega) ?_
        refine Go.iload dMo_startAt_57 rfl ?_
        refine Go.icmp_le (tgt := 70) dMo_startAt_59 (by decide) (fun q26 => ?_) (fun q26 => ?_)
        · refine Go.aload_n dMo_startAt_70 rfl (Nat.ne_of_beq_eq_false rfl) ?_
          refine Go.getIv (v := (nw)) dMo_startAt_71 flMo_13 (Nat.le_of_ble_eq_true rfl) rfl K.now ?_
          refine Go.iload dMo_startAt_74 rfl ?_
          refine Go.icmp_le (tgt := 85) dMo_startAt_76 (by decide) (fun q27 => ?_) (fun q27 => ?_)
          · refine Go.iload dMo_startAt_85 rfl ?_
            refine Go.aload_n dMo_startAt_87 rfl (Nat.ne_of_beq_eq_false rfl) ?_
            refine Go.getR dMo_startAt_88 flMo_48 (Nat.le_of_ble_eq_true rfl) rfl K.r_need ?_
            refine Go.iload_n dMo_startAt_91 rfl ?_
            refine Go.iald (jn := t) dMo_startAt_92 rfl (Nat.lt_of_lt_of_eq (by omega) (K.l_need).symm) (by omega) ?_
            refine Go.iadd dMo_startAt_93 ?_
            refine Go.aload_n dMo_startAt_94 rfl (Nat.ne_of_beq_eq_false rfl) ?_
            refine Go.getR dMo_startAt_95 flMo_26 (Nat.le_of_ble_eq_true rfl) rfl K.r_closes ?_
            refine Go.iload_n dMo_startAt_98 rfl ?_
            refine Go.iald (jn := q) dMo_startAt_99 rfl (Nat.lt_of_lt_of_eq (by omega) (K.l_closes).symm) (by omega) ?_
            refine Go.icmp_le (tgt := 107) dMo_startAt_100 (by decide) (fun q28 => ?_) (fun q28 => ?_)
            · refine Go.iload dMo_startAt_107 rfl ?_
              refine Go.iret dMo_startAt_109 rfl rfl (by decide) ?_
              exact ⟨_, rfl, trivial, rfl⟩
            · refine Go.iconst (v := -1) dMo_startAt_103 (by decide) ?_
              refine Go.goto (tgt := 109) dMo_startAt_104 (by decide) ?_
              refine Go.iret dMo_startAt_109 rfl rfl (by decide) ?_
              exact ⟨_, rfl, trivial, rfl⟩
          · refine Go.aload_n dMo_startAt_79 rfl (Nat.ne_of_beq_eq_false rfl) ?_
            refine Go.getIv (v := (nw)) dMo_startAt_80 flMo_13 (Nat.le_of_ble_eq_true rfl) rfl K.now ?_
            refine Go.istore dMo_startAt_83 (by decide) rfl ?_
            refine Go.iload dMo_startAt_85 rfl ?_
            refine Go.aload_n dMo_startAt_87 rfl (Nat.ne_of_beq_eq_false rfl) ?_
            refine Go.getR dMo_startAt_88 flMo_48 (Nat.le_of_ble_eq_true rfl) rfl K.r_need ?_
            refine Go.iload_n dMo_startAt_91 rfl ?_
            refine Go.iald (jn := t) dMo_startAt_92 rfl (Nat.lt_of_lt_of_eq (by omega) (K.l_need).symm) (by omega) ?_
            refine Go.iadd dMo_startAt_93 ?_
            refine Go.aload_n dMo_startAt_94 rfl (Nat.ne_of_beq_eq_false rfl) ?_
            refine Go.getR dMo_startAt_95 flMo_26 (Nat.le_of_ble_eq_true rfl) rfl K.r_closes ?_
            refine Go.iload_n dMo_startAt_98 rfl ?_
            refine Go.iald (jn := q) dMo_startAt_99 rfl (Nat.lt_of_lt_of_eq (by omega) (K.l_closes).symm) (by omega) ?_
            refine Go.icmp_le (tgt := 107) dMo_startAt_100 (by decide) (fun q29 => ?_) (fun q29 => ?_)
            · refine Go.iload dMo_startAt_107 rfl ?_
              refine Go.iret dMo_startAt_109 rfl rfl (by decide) ?_
              exact ⟨_, rfl, trivial, rfl⟩
            · refine Go.iconst (v := -1) dMo_startAt_103 (by decide) ?_
              refine Go.goto (tgt := 109) dMo_startAt_104 (by decide) ?_
              refine Go.iret dMo_startAt_109 rfl rfl (by decide) ?_
              exact ⟨_, rfl, trivial, rfl⟩
        · refine Go.aload_n dMo_startAt_62 rfl (Nat.ne_of_beq_eq_false rfl) ?_
          refine Go.getR dMo_startAt_63 flMo_23 (Nat.le_of_ble_eq_true rfl) rfl K.r_opens ?_
          refine Go.iload_n dMo_startAt_66 rfl ?_
          refine Go.iald (jn := q) dMo_startAt_67 rfl (Nat.lt_of_lt_of_eq (by omega) (K.l_opens).symm) (by omega) ?_
          refine Go.istore dMo_startAt_68 (by decide) rfl ?_
          refine Go.aload_n dMo_startAt_70 rfl (Nat.ne_of_beq_eq_false rfl) ?_
          refine Go.getIv (v := (nw)) dMo_startAt_71 flMo_13 (Nat.le_of_ble_eq_true rfl) rfl K.now ?_
          refine Go.iload dMo_startAt_74 rfl ?_
          refine Go.icmp_le (tgt := 85) dMo_startAt_76 (by decide) (fun q30 => ?_) (fun q30 => ?_)
          · refine Go.iload dMo_startAt_85 rfl ?_
            refine Go.aload_n dMo_startAt_87 rfl (Nat.ne_of_beq_eq_false rfl) ?_
            refine Go.getR dMo_startAt_88 flMo_48 (Nat.le_of_ble_eq_true rfl) rfl K.r_need ?_
            refine Go.iload_n dMo_startAt_91 rfl ?_
            refine Go.iald (jn := t) dMo_startAt_92 rfl (Nat.lt_of_lt_of_eq (by omega) (K.l_need).symm) (by omega) ?_
            refine Go.iadd dMo_startAt_93 ?_
            refine Go.aload_n dMo_startAt_94 rfl (Nat.ne_of_beq_eq_false rfl) ?_
            refine Go.getR dMo_startAt_95 flMo_26 (Nat.le_of_ble_eq_true rfl) rfl K.r_closes ?_
            refine Go.iload_n dMo_startAt_98 rfl ?_
            refine Go.iald (jn := q) dMo_startAt_99 rfl (Nat.lt_of_lt_of_eq (by omega) (K.l_closes).symm) (by omega) ?_
            refine Go.icmp_le (tgt := 107) dMo_startAt_100 (by decide) (fun q31 => ?_) (fun q31 => ?_)
            · refine Go.iload dMo_startAt_107 rfl ?_
              refine Go.iret dMo_startAt_109 rfl rfl (by decide) ?_
              exact ⟨_, rfl, trivial, rfl⟩
            · refine Go.iconst (v := -1) dMo_startAt_103 (by decide) ?_
              refine Go.goto (tgt := 109) dMo_startAt_104 (by decide) ?_
              refine Go.iret dMo_startAt_109 rfl rfl (by decide) ?_
              exact ⟨_, rfl, trivial, rfl⟩
          · refine Go.aload_n dMo_startAt_79 rfl (Nat.ne_of_beq_eq_false rfl) ?_
            refine Go.getIv (v := (nw)) dMo_startAt_80 flMo_13 (Nat.le_of_ble_eq_true rfl) rfl K.now ?_
            refine Go.istore dMo_startAt_83 (by decide) rfl ?_
            refine Go.iload dMo_startAt_85 rfl ?_
            refine Go.aload_n dMo_startAt_87 rfl (Nat.ne_of_beq_eq_false rfl) ?_
            refine Go.getR dMo_startAt_88 flMo_48 (Nat.le_of_ble_eq_true rfl) rfl K.r_need ?_
            refine Go.iload_n dMo_startAt_91 rfl ?_
            refine Go.iald (jn := t) dMo_startAt_92 rfl (Nat.lt_of_lt_of_eq (by omega) (K.l_need).symm) (by omega) ?_
            refine Go.iadd dMo_startAt_93 ?_
            refine Go.aload_n dMo_startAt_94 rfl (Nat.ne_of_beq_eq_false rfl) ?_
            refine Go.getR dMo_startAt_95 flMo_26 (Nat.le_of_ble_eq_true rfl) rfl K.r_closes ?_
            refine Go.iload_n dMo_startAt_98 rfl ?_
            refine Go.iald (jn := q) dMo_startAt_99 rfl (Nat.lt_of_lt_of_eq (by omega) (K.l_closes).symm) (by omega) ?_
            refine Go.icmp_le (tgt := 107) dMo_startAt_100 (by decide) (fun q32 => ?_) (fun q32 => ?_)
            · refine Go.iload dMo_startAt_107 rfl ?_
              refine Go.iret dMo_startAt_109 rfl rfl (by decide) ?_
              exact ⟨_, rfl, trivial, rfl⟩
            · refine Go.iconst (v := -1) dMo_startAt_103 (by decide) ?_
              refine Go.goto (tgt := 109) dMo_startAt_104 (by decide) ?_
              refine Go.iret dMo_startAt_109 rfl rfl (by decide) ?_
              exact ⟨_, rfl, trivial, rfl⟩
    · refine Go.iconst (v := -1) dMo_startAt_27 (by decide) ?_
      refine Go.iret dMo_startAt_28 rfl rfl (by decide) ?_
      exact ⟨_, rfl, trivial, rfl⟩
set_option maxHeartbeats 2000000 in
theorem g_Mo_ahead {sc : Nat × (Nat → Int32)} {d bc bs : Nat} {md mt wn : Nat} {nw : Int32} {stf wtf : Nat → Int32} {h0 : AH} {h : AH} (K : KR ((md, mt, wn), nw, stf, wtf) h0 h) (a b : Nat) (ha : a < 12) (hb : b < 12) : Go sc true false (d + 0) bc bs mMo_ahead 0 [vO 5 (0), vI (nI (a)), vI (nI (b))] [] h (rP (fun _ => True) h) := by
  have b_md : md ≤ 4 := K.doors_le
  have b_mt : mt ≤ 12 := K.trucks_le
  have b_wn : wn ≤ 12 := K.waits_le
  refine Go.aload_n dMo_ahead_0 rfl (Nat.ne_of_beq_eq_false rfl) ?_
  refine Go.getR dMo_ahead_1 flMo_51 (Nat.le_of_ble_eq_true rfl) rfl K.r_ranks ?_
  refine Go.iload_n dMo_ahead_4 rfl ?_
  refine Go.iald (jn := a) dMo_ahead_5 rfl (Nat.lt_of_lt_of_eq (by omega) (K.l_ranks).symm) (by omega) ?_
  refine Go.aload_n dMo_ahead_6 rfl (Nat.ne_of_beq_eq_false rfl) ?_
  refine Go.getR dMo_ahead_7 flMo_51 (Nat.le_of_ble_eq_true rfl) rfl K.r_ranks ?_
  refine Go.iload_n dMo_ahead_10 rfl ?_
  refine Go.iald (jn := b) dMo_ahead_11 rfl (Nat.lt_of_lt_of_eq (by omega) (K.l_ranks).symm) (by omega) ?_
  refine Go.icmp_eq (tgt := 36) dMo_ahead_12 (by decide) (fun q33 => ?_) (fun q33 => ?_)
  · refine Go.aload_n dMo_ahead_36 rfl (Nat.ne_of_beq_eq_false rfl) ?_
    refine Go.getR dMo_ahead_37 flMo_45 (Nat.le_of_ble_eq_true rfl) rfl K.r_arrival ?_
    refine Go.iload_n dMo_ahead_40 rfl ?_
    refine Go.iald (jn := a) dMo_ahead_41 rfl (Nat.lt_of_lt_of_eq (by omega) (K.l_arrival).symm) (by omega) ?_
    refine Go.aload_n dMo_ahead_42 rfl (Nat.ne_of_beq_eq_false rfl) ?_
    refine Go.getR dMo_ahead_43 flMo_45 (Nat.le_of_ble_eq_true rfl) rfl K.r_arrival ?_
    refine Go.iload_n dMo_ahead_46 rfl ?_
    refine Go.iald (jn := b) dMo_ahead_47 rfl (Nat.lt_of_lt_of_eq (by omega) (K.l_arrival).symm) (by omega) ?_
    refine Go.icmp_eq (tgt := 74) dMo_ahead_48 (by decide) (fun q34 => ?_) (fun q34 => ?_)
    · refine Go.iload_n dMo_ahead_74 rfl ?_
      refine Go.iload_n dMo_ahead_75 rfl ?_
      refine Go.icmp_ge (tgt := 83) dMo_ahead_76 (by decide) (fun q35 => ?_) (fun q35 => ?_)
      · replace q35 := tle q35 (by omega) (by omega)
        refine Go.iconst (v := nI 0) dMo_ahead_83 (by decide) ?_
        refine Go.iret dMo_ahead_84 rfl rfl (by decide) ?_
        exact ⟨_, rfl, trivial, rfl⟩
      · replace q35 := tnle q35 (by omega) (by omega)
        refine Go.iconst (v := nI 1) dMo_ahead_79 (by decide) ?_
        refine Go.goto (tgt := 84) dMo_ahead_80 (by decide) ?_
        refine Go.iret dMo_ahead_84 rfl rfl (by decide) ?_
        exact ⟨_, rfl, trivial, rfl⟩
    · refine Go.aload_n dMo_ahead_51 rfl (Nat.ne_of_beq_eq_false rfl) ?_
      refine Go.getR dMo_ahead_52 flMo_45 (Nat.le_of_ble_eq_true rfl) rfl K.r_arrival ?_
      refine Go.iload_n dMo_ahead_55 rfl ?_
      refine Go.iald (jn := a) dMo_ahead_56 rfl (Nat.lt_of_lt_of_eq (by omega) (K.l_arrival).symm) (by omega) ?_
      refine Go.aload_n dMo_ahead_57 rfl (Nat.ne_of_beq_eq_false rfl) ?_
      refine Go.getR dMo_ahead_58 flMo_45 (Nat.le_of_ble_eq_true rfl) rfl K.r_arrival ?_
      refine Go.iload_n dMo_ahead_61 rfl ?_
      refine Go.iald (jn := b) dMo_ahead_62 rfl (Nat.lt_of_lt_of_eq (by omega) (K.l_arrival).symm) (by omega) ?_
      refine Go.icmp_ge (tgt := 70) dMo_ahead_63 (by decide) (fun q36 => ?_) (fun q36 => ?_)
      · refine Go.iconst (v := nI 0) dMo_ahead_70 (by decide) ?_
        refine Go.goto (tgt := 84) dMo_ahead_71 (by decide) ?_
        refine Go.iret dMo_ahead_84 rfl rfl (by decide) ?_
        exact ⟨_, rfl, trivial, rfl⟩
      · refine Go.iconst (v := nI 1) dMo_ahead_66 (by decide) ?_
        refine Go.goto (tgt := 84) dMo_ahead_67 (by decide) ?_
        refine Go.iret dMo_ahead_84 rfl rfl (by decide) ?_
        exact ⟨_, rfl, trivial, rfl⟩
  · refine Go.aload_n dMo_ahead_15 rfl (Nat.ne_of_beq_eq_false rfl) ?_
    refine Go.getR dMo_ahead_16 flMo_51 (Nat.le_of_ble_eq_true rfl) rfl K.r_ranks ?_
    refine Go.iload_n dMo_ahead_19 rfl ?_
    refine Go.iald (jn := a) dMo_ahead_20 rfl (Nat.lt_of_lt_of_eq (by omega) (K.l_ranks).symm) (by omega) ?_
    refine Go.aload_n dMo_ahead_21 rfl (Nat.ne_of_beq_eq_false rfl) ?_
    refine Go.getR dMo_ahead_22 flMo_51 (Nat.le_of_ble_eq_true rfl) rfl K.r_ranks ?_
    refine Go.iload_n dMo_ahead_25 rfl ?_
    refine Go.iald (jn := b) dMo_ahead_26 rfl (Nat.lt_of_lt_of_eq (by omega) (K.l_ranks).symm) (by omega) ?_
    refine Go.icmp_ge (tgt := 34) dMo_ahead_27 (by decide) (fun q37 => ?_) (fun q37 => ?_)
    · refine Go.iconst (v := nI 0) dMo_ahead_34 (by decide) ?_
      refine Go.iret dMo_ahead_35 rfl rfl (by decide) ?_
      exact ⟨_, rfl, trivial, rfl⟩
    · refine Go.iconst (v := nI 1) dMo_ahead_30 (by decide) ?_
      refine Go.goto (tgt := 35) dMo_ahead_31 (by decide) ?_
      refine Go.iret dMo_ahead_35 rfl rfl (by decide) ?_
      exact ⟨_, rfl, trivial, rfl⟩
set_option maxHeartbeats 2000000 in
theorem lp_Mo_costNow_4 {sc : Nat × (Nat → Int32)} {d bc bs : Nat} {md mt wn : Nat} {nw : Int32} {stf wtf : Nat → Int32} {h0 : AH} {h : AH} {Q : GO → AH → Prop}  (K : KR ((md, mt, wn), nw, stf, wtf) h0 h) (kont0 : ∀ (x : Int32) (z : AV), Go sc false false (d + 0) bc bs mMo_costNow 58 [vO 5 (0), vI x, z] [] h Q) : ∀ (k0 : Nat) (t : Nat) (x : Int32), (t ≤ mt) → mt - t ≤ k0 → Go sc false false (d + 0) bc bs mMo_costNow 4 [vO 5 (0), vI x, vI (nI (t))] [] h Q := by
  intro k0
  induction k0 using Nat.strongRecOn with
  | _ k0 ih =>
    intro t x ht hk0
    have b_md : md ≤ 4 := K.doors_le
    have b_mt : mt ≤ 12 := K.trucks_le
    have b_wn : wn ≤ 12 := K.waits_le
    refine Go.iload_n dMo_costNow_4 rfl ?_
    refine Go.aload_n dMo_costNow_5 rfl (Nat.ne_of_beq_eq_false rfl) ?_
    refine Go.getIv (v := nI (mt)) dMo_costNow_6 flMo_36 (Nat.le_of_ble_eq_true rfl) rfl K.trucks ?_
    refine Go.icmp_ge (tgt := 58) dMo_costNow_9 (by decide) (fun q38 => ?_) (fun q38 => ?_)
    · replace q38 := tle q38 (by omega) (by omega)
      exact Go.weak (kont0  _ _ )
    · replace q38 := tnle q38 (by omega) (by omega)
      refine Go.aload_n dMo_costNow_12 rfl (Nat.ne_of_beq_eq_false rfl) ?_
      refine Go.getR dMo_costNow_13 flMo_39 (Nat.le_of_ble_eq_true rfl) rfl K.r_state ?_
      refine Go.iload_n dMo_costNow_16 rfl ?_
      refine Go.ialdv (v := ((stf (t)))) (jn := t) dMo_costNow_17 rfl (Nat.lt_of_lt_of_eq (by omega) (K.l_state).symm) (by omega) (K.state (t)) ?_
      refine Go.if_ne (tgt := 52) dMo_costNow_18 (by decide) (fun q40 => ?_) (fun q40 => ?_)
      · refine Go.iinc (v := nI (t + 1)) dMo_costNow_52 (by decide) rfl (nI_inc _) rfl ?_
        refine Go.goto (tgt := 4) dMo_costNow_55 (by decide) ?_
        exact Go.weak (ih (mt - ((t + 1))) (by omega) ((t + 1)) _ (by omega) (Nat.le_refl _))
      · refine Go.iload_n dMo_costNow_21 rfl ?_
        refine Go.aload_n dMo_costNow_22 rfl (Nat.ne_of_beq_eq_false rfl) ?_
        refine Go.getR dMo_costNow_23 flMo_54 (Nat.le_of_ble_eq_true rfl) rfl K.r_doorOf ?_
        refine Go.iload_n dMo_costNow_26 rfl ?_
        refine Go.iald (jn := t) dMo_costNow_27 rfl (Nat.lt_of_lt_of_eq (by omega) (K.l_doorOf).symm) (by omega) ?_
        refine Go.if_ge (tgt := 37) dMo_costNow_28 (by decide) (fun q41 => ?_) (fun q41 => ?_)
        · refine Go.aload_n dMo_costNow_37 rfl (Nat.ne_of_beq_eq_false rfl) ?_
          refine Go.getR dMo_costNow_38 flMo_57 (Nat.le_of_ble_eq_true rfl) rfl K.r_start ?_
          refine Go.iload_n dMo_costNow_41 rfl ?_
          refine Go.iald (jn := t) dMo_costNow_42 rfl (Nat.lt_of_lt_of_eq (by omega) (K.l_start).symm) (by omega) ?_
          refine Go.aload_n dMo_costNow_43 rfl (Nat.ne_of_beq_eq_false rfl) ?_
          refine Go.getR dMo_costNow_44 flMo_45 (Nat.le_of_ble_eq_true rfl) rfl K.r_arrival ?_
          refine Go.iload_n dMo_costNow_47 rfl ?_
          refine Go.iald (jn := t) dMo_costNow_48 rfl (Nat.lt_of_lt_of_eq (by omega) (K.l_arrival).symm) (by omega) ?_
          refine Go.isub dMo_costNow_49 ?_
          refine Go.iadd dMo_costNow_50 ?_
          refine Go.istore_n dMo_costNow_51 (by decide) rfl ?_
          refine Go.iinc (v := nI (t + 1)) dMo_costNow_52 (by decide) rfl (nI_inc _) rfl ?_
          refine Go.goto (tgt := 4) dMo_costNow_55 (by decide) ?_
          exact Go.weak (ih (mt - ((t + 1))) (by omega) ((t + 1)) _ (by omega) (Nat.le_refl _))
        · refine Go.sipush (v := nI 5000) dMo_costNow_31 (by decide) ?_
          refine Go.goto (tgt := 50) dMo_costNow_34 (by decide) ?_
          refine Go.iadd dMo_costNow_50 ?_
          refine Go.istore_n dMo_costNow_51 (by decide) rfl ?_
          refine Go.iinc (v := nI (t + 1)) dMo_costNow_52 (by decide) rfl (nI_inc _) rfl ?_
          refine Go.goto (tgt := 4) dMo_costNow_55 (by decide) ?_
          exact Go.weak (ih (mt - ((t + 1))) (by omega) ((t + 1)) _ (by omega) (Nat.le_refl _))
set_option maxHeartbeats 2000000 in
theorem g_Mo_costNow {sc : Nat × (Nat → Int32)} {d bc bs : Nat} {md mt wn : Nat} {nw : Int32} {stf wtf : Nat → Int32} {h0 : AH} {h : AH} (K : KR ((md, mt, wn), nw, stf, wtf) h0 h)  : Go sc true false (d + 0) bc bs mMo_costNow 0 [vO 5 (0), vU, vU] [] h (rP (fun _ => True) h) := by
  have b_md : md ≤ 4 := K.doors_le
  have b_mt : mt ≤ 12 := K.trucks_le
  have b_wn : wn ≤ 12 := K.waits_le
  refine Go.iconst (v := nI 0) dMo_costNow_0 (by decide) ?_
  refine Go.istore_n dMo_costNow_1 (by decide) rfl ?_
  refine Go.iconst (v := nI 0) dMo_costNow_2 (by decide) ?_
  refine Go.istore_n dMo_costNow_3 (by decide) rfl ?_
  refine Go.weak (lp_Mo_costNow_4  K (fun x42 z42 => ?_) _ (0) _ (by omega) (Nat.le_refl _))
  refine Go.iload_n dMo_costNow_58 rfl ?_
  refine Go.iret dMo_costNow_59 rfl rfl (by decide) ?_
  exact ⟨_, rfl, trivial, rfl⟩
set_option maxHeartbeats 2000000 in
theorem g_Mo_nothing {sc : Nat × (Nat → Int32)} {d bc bs : Nat} {md mt wn : Nat} {nw : Int32} {stf wtf : Nat → Int32} {h0 : AH} {h : AH} (K : KR ((md, mt, wn), nw, stf, wtf) h0 h) (t : Nat) (ht : t < 12) : Go sc true false (d + 0) bc bs mMo_nothing 0 [vO 5 (0), vI (nI (t))] [] h (rN (ma_up (ma_up h.1 100 24 t (-1)) 100 25 t (-1), h.2)) := by
  have b_md : md ≤ 4 := K.doors_le
  have b_mt : mt ≤ 12 := K.trucks_le
  have b_wn : wn ≤ 12 := K.waits_le
  refine Go.aload_n dMo_nothing_0 rfl (Nat.ne_of_beq_eq_false rfl) ?_
  refine Go.getR dMo_nothing_1 flMo_54 (Nat.le_of_ble_eq_true rfl) rfl K.r_doorOf ?_
  refine Go.iload_n dMo_nothing_4 rfl ?_
  refine Go.iconst (v := -1) dMo_nothing_5 (by decide) ?_
  refine Go.iast (jn := t) dMo_nothing_6 rfl (Nat.lt_of_lt_of_eq (by omega) (K.l_doorOf).symm) (by omega) ?_
  refine Go.aload_n dMo_nothing_7 rfl (Nat.ne_of_beq_eq_false rfl) ?_
  refine Go.getR dMo_nothing_8 flMo_57 (Nat.le_of_ble_eq_true rfl) rfl K.r_start ?_
  refine Go.iload_n dMo_nothing_11 rfl ?_
  refine Go.iconst (v := -1) dMo_nothing_12 (by decide) ?_
  refine Go.iast (jn := t) dMo_nothing_13 rfl (Nat.lt_of_lt_of_eq (by omega) (K.l_start).symm) (by omega) ?_
  refine Go.vret dMo_nothing_14 rfl (by decide) ?_
  exact ⟨rfl, rfl⟩
set_option maxHeartbeats 2000000 in
theorem g_Mo_thrown {sc : Nat × (Nat → Int32)} {d bc bs : Nat} {md mt wn : Nat} {nw : Int32} {stf wtf : Nat → Int32} {h0 : AH} {h : AH} (K : KR ((md, mt, wn), nw, stf, wtf) h0 h)  : Go sc true false (d + 0) bc bs mMo_thrown 0 [vO 5 (0)] [] h (rV (h.1 5 0 0) h) := by
  have b_md : md ≤ 4 := K.doors_le
  have b_mt : mt ≤ 12 := K.trucks_le
  have b_wn : wn ≤ 12 := K.waits_le
  refine Go.aload_n dMo_thrown_0 rfl (Nat.ne_of_beq_eq_false rfl) ?_
  refine Go.getI dMo_thrown_1 flMo_7 (Nat.le_of_ble_eq_true rfl) rfl ?_
  refine Go.iret dMo_thrown_4 rfl rfl (by decide) ?_
  exact ⟨rfl, rfl⟩
end
