section
-- ===== PART A: goes FIRST, ahead of the names: the tables' words, and 'selects' of the private methods out of them =====
/-- a private method of a class that the tables say can be made, by its rows of tables_1 -/
def lw_okq (q : MethodName × Nat) : Prop := (q.1.cls ≠ "java/lang/invoke/MethodHandle" ∧ q.1.cls ≠ "java/lang/invoke/VarHandle") ∧ Cond.instantiable q.1.cls q.2 ∈ tables_1 ∧ Cond.privateMethod q.1 ∈ tables_1 ∧ Cond.instanceMethod q.1 ∈ tables_1
theorem lw_p0 : lw_okq (⟨"DockBook", "costAlone", "(LDockBook$Truck;)I"⟩, 9) := ⟨⟨by decide +kernel, by decide +kernel⟩, List.mem_of_getElem? (i := 18) (by decide +kernel), List.mem_of_getElem? (i := 213) (by decide +kernel), List.mem_of_getElem? (i := 214) (by decide +kernel)⟩
theorem lw_p1 : lw_okq (⟨"DockBook", "trucksThatAre", "(I)I"⟩, 9) := ⟨⟨by decide +kernel, by decide +kernel⟩, List.mem_of_getElem? (i := 18) (by decide +kernel), List.mem_of_getElem? (i := 239) (by decide +kernel), List.mem_of_getElem? (i := 240) (by decide +kernel)⟩
theorem lw_p2 : lw_okq (⟨"DockBook", "planCost", "()I"⟩, 9) := ⟨⟨by decide +kernel, by decide +kernel⟩, List.mem_of_getElem? (i := 18) (by decide +kernel), List.mem_of_getElem? (i := 243) (by decide +kernel), List.mem_of_getElem? (i := 244) (by decide +kernel)⟩
theorem lw_p3 : lw_okq (⟨"java/lang/Throwable", "fillInStackTrace", "(I)Ljava/lang/Throwable;"⟩, 6) := ⟨⟨by decide +kernel, by decide +kernel⟩, List.mem_of_getElem? (i := 298) (by decide +kernel), List.mem_of_getElem? (i := 296) (by decide +kernel), List.mem_of_getElem? (i := 297) (by decide +kernel)⟩
theorem lw_p4 : lw_okq (⟨"DockBook", "gatherWaiting", "()I"⟩, 9) := ⟨⟨by decide +kernel, by decide +kernel⟩, List.mem_of_getElem? (i := 18) (by decide +kernel), List.mem_of_getElem? (i := 359) (by decide +kernel), List.mem_of_getElem? (i := 360) (by decide +kernel)⟩
theorem lw_p5 : lw_okq (⟨"DockBook$DoorOrders", "extend", "(LDockBook$Door;[LDockBook$Truck;IIII)V"⟩, 3) := ⟨⟨by decide +kernel, by decide +kernel⟩, List.mem_of_getElem? (i := 38) (by decide +kernel), List.mem_of_getElem? (i := 380) (by decide +kernel), List.mem_of_getElem? (i := 381) (by decide +kernel)⟩
theorem lw_p6 : lw_okq (⟨"DockBook$DoorOrders", "keepIfBetter", "(III)V"⟩, 3) := ⟨⟨by decide +kernel, by decide +kernel⟩, List.mem_of_getElem? (i := 38) (by decide +kernel), List.mem_of_getElem? (i := 384) (by decide +kernel), List.mem_of_getElem? (i := 385) (by decide +kernel)⟩
theorem lw_p7 : lw_okq (⟨"DockBook$DoorOrders", "startsComeFirst", "(II)Z"⟩, 3) := ⟨⟨by decide +kernel, by decide +kernel⟩, List.mem_of_getElem? (i := 38) (by decide +kernel), List.mem_of_getElem? (i := 388) (by decide +kernel), List.mem_of_getElem? (i := 389) (by decide +kernel)⟩
theorem lw_p8 : lw_okq (⟨"DockBook$DoorOrders", "add", "(LDockBook$Door;[LDockBook$Truck;IIIII)V"⟩, 3) := ⟨⟨by decide +kernel, by decide +kernel⟩, List.mem_of_getElem? (i := 38) (by decide +kernel), List.mem_of_getElem? (i := 392) (by decide +kernel), List.mem_of_getElem? (i := 393) (by decide +kernel)⟩
theorem lw_p9 : lw_okq (⟨"DockBook$DoorChoice", "choose", "(IIII)V"⟩, 5) := ⟨⟨by decide +kernel, by decide +kernel⟩, List.mem_of_getElem? (i := 30) (by decide +kernel), List.mem_of_getElem? (i := 398) (by decide +kernel), List.mem_of_getElem? (i := 399) (by decide +kernel)⟩
theorem lw_p10 : lw_okq (⟨"DockBook$DoorChoice", "chooseDoor", "(IIIII)V"⟩, 5) := ⟨⟨by decide +kernel, by decide +kernel⟩, List.mem_of_getElem? (i := 30) (by decide +kernel), List.mem_of_getElem? (i := 405) (by decide +kernel), List.mem_of_getElem? (i := 406) (by decide +kernel)⟩
theorem lw_p11 : lw_okq (⟨"DockBook$DoorChoice", "chooseNothing", "(IIII)V"⟩, 5) := ⟨⟨by decide +kernel, by decide +kernel⟩, List.mem_of_getElem? (i := 30) (by decide +kernel), List.mem_of_getElem? (i := 409) (by decide +kernel), List.mem_of_getElem? (i := 410) (by decide +kernel)⟩
theorem lw_p12 : lw_okq (⟨"DockBook$DoorChoice", "bestSetAt", "(II)I"⟩, 5) := ⟨⟨by decide +kernel, by decide +kernel⟩, List.mem_of_getElem? (i := 30) (by decide +kernel), List.mem_of_getElem? (i := 413) (by decide +kernel), List.mem_of_getElem? (i := 414) (by decide +kernel)⟩
theorem lw_p13 : lw_okq (⟨"DockBook", "planByRule", "(I)V"⟩, 9) := ⟨⟨by decide +kernel, by decide +kernel⟩, List.mem_of_getElem? (i := 18) (by decide +kernel), List.mem_of_getElem? (i := 425) (by decide +kernel), List.mem_of_getElem? (i := 426) (by decide +kernel)⟩
theorem lw_p14 : lw_okq (⟨"DockBook", "sortByRule", "(I)V"⟩, 9) := ⟨⟨by decide +kernel, by decide +kernel⟩, List.mem_of_getElem? (i := 18) (by decide +kernel), List.mem_of_getElem? (i := 429) (by decide +kernel), List.mem_of_getElem? (i := 430) (by decide +kernel)⟩
theorem lw_p15 : lw_okq (⟨"DockBook", "placeByRule", "(LDockBook$Truck;)V"⟩, 9) := ⟨⟨by decide +kernel, by decide +kernel⟩, List.mem_of_getElem? (i := 18) (by decide +kernel), List.mem_of_getElem? (i := 437) (by decide +kernel), List.mem_of_getElem? (i := 438) (by decide +kernel)⟩
def lw_privs_1 : List (MethodName × Nat) := [(⟨"DockBook", "costAlone", "(LDockBook$Truck;)I"⟩, 9), (⟨"DockBook", "trucksThatAre", "(I)I"⟩, 9), (⟨"DockBook", "planCost", "()I"⟩, 9), (⟨"java/lang/Throwable", "fillInStackTrace", "(I)Ljava/lang/Throwable;"⟩, 6), (⟨"DockBook", "gatherWaiting", "()I"⟩, 9), (⟨"DockBook$DoorOrders", "extend", "(LDockBook$Door;[LDockBook$Truck;IIII)V"⟩, 3), (⟨"DockBook$DoorOrders", "keepIfBetter", "(III)V"⟩, 3), (⟨"DockBook$DoorOrders", "startsComeFirst", "(II)Z"⟩, 3), (⟨"DockBook$DoorOrders", "add", "(LDockBook$Door;[LDockBook$Truck;IIIII)V"⟩, 3), (⟨"DockBook$DoorChoice", "choose", "(IIII)V"⟩, 5), (⟨"DockBook$DoorChoice", "chooseDoor", "(IIIII)V"⟩, 5), (⟨"DockBook$DoorChoice", "chooseNothing", "(IIII)V"⟩, 5), (⟨"DockBook$DoorChoice", "bestSetAt", "(II)I"⟩, 5), (⟨"DockBook", "planByRule", "(I)V"⟩, 9), (⟨"DockBook", "sortByRule", "(I)V"⟩, 9), (⟨"DockBook", "placeByRule", "(LDockBook$Truck;)V"⟩, 9)]
theorem lw_r1 : ∀ q ∈ lw_privs_1, lw_okq q := List.forall_mem_cons.mpr ⟨lw_p0, List.forall_mem_cons.mpr ⟨lw_p1, List.forall_mem_cons.mpr ⟨lw_p2, List.forall_mem_cons.mpr ⟨lw_p3, List.forall_mem_cons.mpr ⟨lw_p4, List.forall_mem_cons.mpr ⟨lw_p5, List.forall_mem_cons.mpr ⟨lw_p6, List.forall_mem_cons.mpr ⟨lw_p7, List.forall_mem_cons.mpr ⟨lw_p8, List.forall_mem_cons.mpr ⟨lw_p9, List.forall_mem_cons.mpr ⟨lw_p10, List.forall_mem_cons.mpr ⟨lw_p11, List.forall_mem_cons.mpr ⟨lw_p12, List.forall_mem_cons.mpr ⟨lw_p13, List.forall_mem_cons.mpr ⟨lw_p14, List.forall_mem_cons.mpr ⟨lw_p15, fun _ h => absurd h List.not_mem_nil⟩⟩⟩⟩⟩⟩⟩⟩⟩⟩⟩⟩⟩⟩⟩⟩
theorem lw_p16 : lw_okq (⟨"DockBook", "truckNumbered", "(I)LDockBook$Truck;"⟩, 9) := ⟨⟨by decide +kernel, by decide +kernel⟩, List.mem_of_getElem? (i := 18) (by decide +kernel), List.mem_of_getElem? (i := 455) (by decide +kernel), List.mem_of_getElem? (i := 456) (by decide +kernel)⟩
theorem lw_p17 : lw_okq (⟨"DockBook", "mayBeCalled", "(LDockBook$Truck;)Z"⟩, 9) := ⟨⟨by decide +kernel, by decide +kernel⟩, List.mem_of_getElem? (i := 18) (by decide +kernel), List.mem_of_getElem? (i := 475) (by decide +kernel), List.mem_of_getElem? (i := 476) (by decide +kernel)⟩
theorem lw_p18 : lw_okq (⟨"DockBook", "doorNumbered", "(I)LDockBook$Door;"⟩, 9) := ⟨⟨by decide +kernel, by decide +kernel⟩, List.mem_of_getElem? (i := 18) (by decide +kernel), List.mem_of_getElem? (i := 479) (by decide +kernel), List.mem_of_getElem? (i := 480) (by decide +kernel)⟩
theorem lw_p19 : lw_okq (⟨"DockBook", "plannedBefore", "(LDockBook$Truck;)I"⟩, 9) := ⟨⟨by decide +kernel, by decide +kernel⟩, List.mem_of_getElem? (i := 18) (by decide +kernel), List.mem_of_getElem? (i := 570) (by decide +kernel), List.mem_of_getElem? (i := 571) (by decide +kernel)⟩
theorem lw_p20 : lw_okq (⟨"DockBook", "plannedFor", "(I)I"⟩, 9) := ⟨⟨by decide +kernel, by decide +kernel⟩, List.mem_of_getElem? (i := 18) (by decide +kernel), List.mem_of_getElem? (i := 590) (by decide +kernel), List.mem_of_getElem? (i := 591) (by decide +kernel)⟩
theorem lw_p21 : lw_okq (⟨"DockBookModel", "nothing", "(I)V"⟩, 30) := ⟨⟨by decide +kernel, by decide +kernel⟩, List.mem_of_getElem? (i := 595) (by decide +kernel), List.mem_of_getElem? (i := 708) (by decide +kernel), List.mem_of_getElem? (i := 709) (by decide +kernel)⟩
theorem lw_p22 : lw_okq (⟨"DockBookModel", "findWaiting", "()V"⟩, 30) := ⟨⟨by decide +kernel, by decide +kernel⟩, List.mem_of_getElem? (i := 595) (by decide +kernel), List.mem_of_getElem? (i := 716) (by decide +kernel), List.mem_of_getElem? (i := 717) (by decide +kernel)⟩
theorem lw_p23 : lw_okq (⟨"DockBookModel", "exactly", "()V"⟩, 30) := ⟨⟨by decide +kernel, by decide +kernel⟩, List.mem_of_getElem? (i := 595) (by decide +kernel), List.mem_of_getElem? (i := 720) (by decide +kernel), List.mem_of_getElem? (i := 721) (by decide +kernel)⟩
theorem lw_p24 : lw_okq (⟨"DockBookModel", "findSet", "(II)V"⟩, 30) := ⟨⟨by decide +kernel, by decide +kernel⟩, List.mem_of_getElem? (i := 595) (by decide +kernel), List.mem_of_getElem? (i := 724) (by decide +kernel), List.mem_of_getElem? (i := 725) (by decide +kernel)⟩
theorem lw_p25 : lw_okq (⟨"DockBookModel", "inOrder", "(III)I"⟩, 30) := ⟨⟨by decide +kernel, by decide +kernel⟩, List.mem_of_getElem? (i := 595) (by decide +kernel), List.mem_of_getElem? (i := 728) (by decide +kernel), List.mem_of_getElem? (i := 729) (by decide +kernel)⟩
theorem lw_p26 : lw_okq (⟨"DockBookModel", "freeFrom", "(I)I"⟩, 30) := ⟨⟨by decide +kernel, by decide +kernel⟩, List.mem_of_getElem? (i := 595) (by decide +kernel), List.mem_of_getElem? (i := 732) (by decide +kernel), List.mem_of_getElem? (i := 733) (by decide +kernel)⟩
theorem lw_p27 : lw_okq (⟨"DockBookModel", "at", "(I)I"⟩, 30) := ⟨⟨by decide +kernel, by decide +kernel⟩, List.mem_of_getElem? (i := 595) (by decide +kernel), List.mem_of_getElem? (i := 736) (by decide +kernel), List.mem_of_getElem? (i := 737) (by decide +kernel)⟩
theorem lw_p28 : lw_okq (⟨"DockBookModel", "startAt", "(III)I"⟩, 30) := ⟨⟨by decide +kernel, by decide +kernel⟩, List.mem_of_getElem? (i := 595) (by decide +kernel), List.mem_of_getElem? (i := 740) (by decide +kernel), List.mem_of_getElem? (i := 741) (by decide +kernel)⟩
theorem lw_p29 : lw_okq (⟨"DockBookModel", "costOf", "(I)I"⟩, 30) := ⟨⟨by decide +kernel, by decide +kernel⟩, List.mem_of_getElem? (i := 595) (by decide +kernel), List.mem_of_getElem? (i := 744) (by decide +kernel), List.mem_of_getElem? (i := 745) (by decide +kernel)⟩
theorem lw_p30 : lw_okq (⟨"DockBookModel", "setOf", "(I)I"⟩, 30) := ⟨⟨by decide +kernel, by decide +kernel⟩, List.mem_of_getElem? (i := 595) (by decide +kernel), List.mem_of_getElem? (i := 748) (by decide +kernel), List.mem_of_getElem? (i := 749) (by decide +kernel)⟩
theorem lw_p31 : lw_okq (⟨"DockBookModel", "byRule", "()V"⟩, 30) := ⟨⟨by decide +kernel, by decide +kernel⟩, List.mem_of_getElem? (i := 595) (by decide +kernel), List.mem_of_getElem? (i := 752) (by decide +kernel), List.mem_of_getElem? (i := 753) (by decide +kernel)⟩
def lw_privs_2 : List (MethodName × Nat) := [(⟨"DockBook", "truckNumbered", "(I)LDockBook$Truck;"⟩, 9), (⟨"DockBook", "mayBeCalled", "(LDockBook$Truck;)Z"⟩, 9), (⟨"DockBook", "doorNumbered", "(I)LDockBook$Door;"⟩, 9), (⟨"DockBook", "plannedBefore", "(LDockBook$Truck;)I"⟩, 9), (⟨"DockBook", "plannedFor", "(I)I"⟩, 9), (⟨"DockBookModel", "nothing", "(I)V"⟩, 30), (⟨"DockBookModel", "findWaiting", "()V"⟩, 30), (⟨"DockBookModel", "exactly", "()V"⟩, 30), (⟨"DockBookModel", "findSet", "(II)V"⟩, 30), (⟨"DockBookModel", "inOrder", "(III)I"⟩, 30), (⟨"DockBookModel", "freeFrom", "(I)I"⟩, 30), (⟨"DockBookModel", "at", "(I)I"⟩, 30), (⟨"DockBookModel", "startAt", "(III)I"⟩, 30), (⟨"DockBookModel", "costOf", "(I)I"⟩, 30), (⟨"DockBookModel", "setOf", "(I)I"⟩, 30), (⟨"DockBookModel", "byRule", "()V"⟩, 30)]
theorem lw_r2 : ∀ q ∈ lw_privs_2, lw_okq q := List.forall_mem_cons.mpr ⟨lw_p16, List.forall_mem_cons.mpr ⟨lw_p17, List.forall_mem_cons.mpr ⟨lw_p18, List.forall_mem_cons.mpr ⟨lw_p19, List.forall_mem_cons.mpr ⟨lw_p20, List.forall_mem_cons.mpr ⟨lw_p21, List.forall_mem_cons.mpr ⟨lw_p22, List.forall_mem_cons.mpr ⟨lw_p23, List.forall_mem_cons.mpr ⟨lw_p24, List.forall_mem_cons.mpr ⟨lw_p25, List.forall_mem_cons.mpr ⟨lw_p26, List.forall_mem_cons.mpr ⟨lw_p27, List.forall_mem_cons.mpr ⟨lw_p28, List.forall_mem_cons.mpr ⟨lw_p29, List.forall_mem_cons.mpr ⟨lw_p30, List.forall_mem_cons.mpr ⟨lw_p31, fun _ h => absurd h List.not_mem_nil⟩⟩⟩⟩⟩⟩⟩⟩⟩⟩⟩⟩⟩⟩⟩⟩
theorem lw_p32 : lw_okq (⟨"DockBookModel", "ahead", "(II)Z"⟩, 30) := ⟨⟨by decide +kernel, by decide +kernel⟩, List.mem_of_getElem? (i := 595) (by decide +kernel), List.mem_of_getElem? (i := 756) (by decide +kernel), List.mem_of_getElem? (i := 757) (by decide +kernel)⟩
theorem lw_p33 : lw_okq (⟨"DockBookModel", "costNow", "()I"⟩, 30) := ⟨⟨by decide +kernel, by decide +kernel⟩, List.mem_of_getElem? (i := 595) (by decide +kernel), List.mem_of_getElem? (i := 760) (by decide +kernel), List.mem_of_getElem? (i := 761) (by decide +kernel)⟩
theorem lw_p34 : lw_okq (⟨"DockBookModel", "noTruck", "(I)Z"⟩, 30) := ⟨⟨by decide +kernel, by decide +kernel⟩, List.mem_of_getElem? (i := 595) (by decide +kernel), List.mem_of_getElem? (i := 780) (by decide +kernel), List.mem_of_getElem? (i := 781) (by decide +kernel)⟩
theorem lw_p35 : lw_okq (⟨"DockBookModel", "noDoor", "(I)Z"⟩, 30) := ⟨⟨by decide +kernel, by decide +kernel⟩, List.mem_of_getElem? (i := 595) (by decide +kernel), List.mem_of_getElem? (i := 808) (by decide +kernel), List.mem_of_getElem? (i := 809) (by decide +kernel)⟩
def lw_privs_3 : List (MethodName × Nat) := [(⟨"DockBookModel", "ahead", "(II)Z"⟩, 30), (⟨"DockBookModel", "costNow", "()I"⟩, 30), (⟨"DockBookModel", "noTruck", "(I)Z"⟩, 30), (⟨"DockBookModel", "noDoor", "(I)Z"⟩, 30)]
theorem lw_r3 : ∀ q ∈ lw_privs_3, lw_okq q := List.forall_mem_cons.mpr ⟨lw_p32, List.forall_mem_cons.mpr ⟨lw_p33, List.forall_mem_cons.mpr ⟨lw_p34, List.forall_mem_cons.mpr ⟨lw_p35, fun _ h => absurd h List.not_mem_nil⟩⟩⟩⟩
def lw_privs : List (MethodName × Nat) := lw_privs_1 ++ (lw_privs_2 ++ (lw_privs_3))
def lw_tbl : List Cond := k2_sels lw_privs ++ tables_1
theorem lw_privs_ok : ∀ q ∈ lw_privs, lw_okq q := by
  show ∀ q ∈ lw_privs_1 ++ (lw_privs_2 ++ (lw_privs_3)), lw_okq q
  exact List.forall_mem_append.mpr ⟨lw_r1, List.forall_mem_append.mpr ⟨lw_r2, lw_r3⟩⟩
-- ===== end of PART A; then your names; then what follows =====
end
section
def RDo : String := "DockBook$Door"
def TDo : u_T := fun k => match k with
  | 0 => ("DockBook$Door", "kinds", "I", false)
  | 1 => ("DockBook$Door", "from", "I", false)
  | 2 => ("DockBook$Door", "to", "I", false)
  | 3 => ("DockBook$Door", "isOut", "Z", false)
  | 4 => ("DockBook$Door", "truckAtIt", "I", false)
  | 5 => ("DockBook$Door", "freeAt", "I", false)
  | 6 => ("DockBook$Door", "departed", "I", false)
  | _ => ("DockBook$Door", "nextReady", "I", false)
-- Do: 0 kinds, 1 from, 2 to, 3 isOut, 4 truckAtIt, 5 freeAt, 6 departed, 7 nextReady
def RCh : String := "DockBook$DoorChoice"
def TCh : u_T := fun k => match k with
  | 0 => ("DockBook$DoorChoice", "orders", "[LDockBook$DoorOrders;", true)
  | 1 => ("DockBook$DoorChoice", "setAtDoor", "[I", true)
  | 2 => ("DockBook$DoorChoice", "chosen", "[I", true)
  | 3 => ("DockBook$DoorChoice", "best", "[I", true)
  | _ => ("DockBook$DoorChoice", "bestCost", "I", false)
-- Ch: 0 orders, 1 setAtDoor, 2 chosen, 3 best, 4 bestCost
def ROr : String := "DockBook$DoorOrders"
def TOr : u_T := fun k => match k with
  | 0 => ("DockBook$DoorOrders", "costs", "[I", true)
  | 1 => ("DockBook$DoorOrders", "bestStarts", "[I", true)
  | _ => ("DockBook$DoorOrders", "starts", "[I", true)
-- Or: 0 costs, 1 bestStarts, 2 starts
def RTr : String := "DockBook$Truck"
def TTr : u_T := fun k => match k with
  | 0 => ("DockBook$Truck", "number", "I", true)
  | 1 => ("DockBook$Truck", "kind", "I", false)
  | 2 => ("DockBook$Truck", "arrival", "I", false)
  | 3 => ("DockBook$Truck", "need", "I", false)
  | 4 => ("DockBook$Truck", "rank", "I", false)
  | 5 => ("DockBook$Truck", "state", "I", false)
  | 6 => ("DockBook$Truck", "door", "I", false)
  | 7 => ("DockBook$Truck", "start", "I", false)
  | 8 => ("DockBook$Truck", "doorBefore", "I", false)
  | 9 => ("DockBook$Truck", "startBefore", "I", false)
  | 10 => ("DockBook$Truck", "sealTold", "I", false)
  | 11 => ("DockBook$Truck", "sealIsSure", "Z", false)
  | 12 => ("DockBook$Truck", "loadIsRight", "Z", false)
  | _ => ("DockBook$Truck", "departure", "I", false)
-- Tr: 0 number, 1 kind, 2 arrival, 3 need, 4 rank, 5 state, 6 door, 7 start, 8 doorBefore, 9 startBefore, 10 sealTold, 11 sealIsSure, 12 loadIsRight, 13 departure
def RBk : String := "DockBook"
def TBk : u_T := fun k => match k with
  | 0 => ("DockBook", "doors", "[LDockBook$Door;", true)
  | 1 => ("DockBook", "trucks", "[LDockBook$Truck;", true)
  | 2 => ("DockBook", "waiting", "[LDockBook$Truck;", true)
  | 3 => ("DockBook", "doorChoice", "LDockBook$DoorChoice;", true)
  | 4 => ("DockBook", "doorCount", "I", false)
  | 5 => ("DockBook", "truckCount", "I", false)
  | 6 => ("DockBook", "now", "I", false)
  | 7 => ("DockBook", "lastWasExact", "Z", false)
  | _ => ("DockBook", "lastMoved", "I", false)
-- Bk: 0 doors, 1 trucks, 2 waiting, 3 doorChoice, 4 doorCount, 5 truckCount, 6 now, 7 lastWasExact, 8 lastMoved
def RMo : String := "DockBookModel"
def TMo : u_T := fun k => match k with
  | 0 => ("DockBookModel", "thrownCode", "I", false)
  | 1 => ("DockBookModel", "now", "I", false)
  | 2 => ("DockBookModel", "doors", "I", false)
  | 3 => ("DockBookModel", "kinds", "[I", true)
  | 4 => ("DockBookModel", "opens", "[I", true)
  | 5 => ("DockBookModel", "closes", "[I", true)
  | 6 => ("DockBookModel", "isOut", "[Z", true)
  | 7 => ("DockBookModel", "left", "[I", true)
  | 8 => ("DockBookModel", "trucks", "I", false)
  | 9 => ("DockBookModel", "state", "[I", true)
  | 10 => ("DockBookModel", "kind", "[I", true)
  | 11 => ("DockBookModel", "arrival", "[I", true)
  | 12 => ("DockBookModel", "need", "[I", true)
  | 13 => ("DockBookModel", "ranks", "[I", true)
  | 14 => ("DockBookModel", "doorOf", "[I", true)
  | 15 => ("DockBookModel", "start", "[I", true)
  | 16 => ("DockBookModel", "gone", "[I", true)
  | 17 => ("DockBookModel", "seals", "[I", true)
  | 18 => ("DockBookModel", "twice", "[Z", true)
  | 19 => ("DockBookModel", "same", "[Z", true)
  | 20 => ("DockBookModel", "wasExact", "Z", false)
  | 21 => ("DockBookModel", "movedNow", "I", false)
  | 22 => ("DockBookModel", "waits", "I", false)
  | 23 => ("DockBookModel", "waiting", "[I", true)
  | 24 => ("DockBookModel", "newDoor", "[I", true)
  | 25 => ("DockBookModel", "newStart", "[I", true)
  | 26 => ("DockBookModel", "setCost", "[I", true)
  | 27 => ("DockBookModel", "setStart", "[I", true)
  | 28 => ("DockBookModel", "trial", "[I", true)
  | _ => ("DockBookModel", "counts", "[I", true)
-- Mo: 0 thrownCode, 1 now, 2 doors, 3 kinds, 4 opens, 5 closes, 6 isOut, 7 left, 8 trucks, 9 state, 10 kind, 11 arrival, 12 need, 13 ranks, 14 doorOf, 15 start, 16 gone, 17 seals, 18 twice, 19 same, 20 wasExact, 21 movedNow, 22 waits, 23 waiting, 24 newDoor, 25 newStart, 26 setCost, 27 setStart, 28 trial, 29 counts
abbrev maCl : List vw_C := [(RDo, TDo, 8), (RCh, TCh, 5), (ROr, TOr, 3), (RTr, TTr, 14), (RBk, TBk, 9), (RMo, TMo, 30)]
def ma_nf : Nat → Nat := fun k => match k with
  | 0 => 8
  | 1 => 5
  | 2 => 3
  | 3 => 14
  | 4 => 9
  | 5 => 30
  | _ => 0
def ma_fk : Nat → Nat → Bool := fun k f => match k with
  | 0 => false
  | 1 => f == 0 || f == 1 || f == 2 || f == 3
  | 2 => f == 0 || f == 1 || f == 2
  | 3 => false
  | 4 => f == 0 || f == 1 || f == 2 || f == 3
  | 5 => f == 3 || f == 4 || f == 5 || f == 6 || f == 7 || f == 9 || f == 10 || f == 11 || f == 12 || f == 13 || f == 14 || f == 15 || f == 16 || f == 17 || f == 18 || f == 19 || f == 23 || f == 24 || f == 25 || f == 26 || f == 27 || f == 28 || f == 29
  | _ => false
def ma_ft : Nat → Nat → FieldType := fun k f => match k with
  | 0 => ([.int, .int, .int, .boolean, .int, .int, .int, .int] : List FieldType).getD f .int
  | 1 => ([.array (.object "DockBook$DoorOrders"), .array (.int), .array (.int), .array (.int), .int] : List FieldType).getD f .int
  | 2 => ([.array (.int), .array (.int), .array (.int)] : List FieldType).getD f .int
  | 3 => ([.int, .int, .int, .int, .int, .int, .int, .int, .int, .int, .int, .boolean, .boolean, .int] : List FieldType).getD f .int
  | 4 => ([.array (.object "DockBook$Door"), .array (.object "DockBook$Truck"), .array (.object "DockBook$Truck"), .object "DockBook$DoorChoice", .int, .int, .int, .boolean, .int] : List FieldType).getD f .int
  | 5 => ([.int, .int, .int, .array (.int), .array (.int), .array (.int), .array (.boolean), .array (.int), .int, .array (.int), .array (.int), .array (.int), .array (.int), .array (.int), .array (.int), .array (.int), .array (.int), .array (.int), .array (.boolean), .array (.boolean), .boolean, .int, .int, .array (.int), .array (.int), .array (.int), .array (.int), .array (.int), .array (.int), .array (.int)] : List FieldType).getD f .int
  | _ => .int
def ma_ty : Nat → Option FieldType := fun a => match a with
  | 100 => some .int
  | 101 => some .long
  | 102 => some .boolean
  | 110 => some (.object "DockBook$Door")
  | 112 => some (.object "DockBook$DoorOrders")
  | 113 => some (.object "DockBook$Truck")
  | _ => none
def ma_en : Nat → String := fun k => match k with
  | 1 => "java/lang/IllegalArgumentException"
  | 2 => "java/lang/UnsupportedOperationException"
  | 3 => "java/util/NoSuchElementException"
  | _ => "java/lang/IllegalStateException"
theorem inDo : ∀ w ∈ u_ws RDo TDo 8, w ∈ lw_tbl := by decide +kernel
theorem ftDo : ∀ j, j < 8 → parseFieldDescriptor (TDo j).2.2.1 = some (ma_ft 0 j) := by decide +kernel
theorem nmDo : ∀ a, a < 8 → ∀ b, b < 8 → a ≠ b → (TDo a).2.1 ≠ (TDo b).2.1 := by decide +kernel
theorem dfDo : ∀ j, j < 8 → defaultValue (ma_ft 0 j) = if ma_fk 0 j = true then .null else .int 0 := by decide +kernel
theorem inCh : ∀ w ∈ u_ws RCh TCh 5, w ∈ lw_tbl := by decide +kernel
theorem ftCh : ∀ j, j < 5 → parseFieldDescriptor (TCh j).2.2.1 = some (ma_ft 1 j) := by decide +kernel
theorem nmCh : ∀ a, a < 5 → ∀ b, b < 5 → a ≠ b → (TCh a).2.1 ≠ (TCh b).2.1 := by decide +kernel
theorem dfCh : ∀ j, j < 5 → defaultValue (ma_ft 1 j) = if ma_fk 1 j = true then .null else .int 0 := by decide +kernel
theorem inOr : ∀ w ∈ u_ws ROr TOr 3, w ∈ lw_tbl := by decide +kernel
theorem ftOr : ∀ j, j < 3 → parseFieldDescriptor (TOr j).2.2.1 = some (ma_ft 2 j) := by decide +kernel
theorem nmOr : ∀ a, a < 3 → ∀ b, b < 3 → a ≠ b → (TOr a).2.1 ≠ (TOr b).2.1 := by decide +kernel
theorem dfOr : ∀ j, j < 3 → defaultValue (ma_ft 2 j) = if ma_fk 2 j = true then .null else .int 0 := by decide +kernel
theorem inTr : ∀ w ∈ u_ws RTr TTr 14, w ∈ lw_tbl := by decide +kernel
theorem ftTr : ∀ j, j < 14 → parseFieldDescriptor (TTr j).2.2.1 = some (ma_ft 3 j) := by decide +kernel
theorem nmTr : ∀ a, a < 14 → ∀ b, b < 14 → a ≠ b → (TTr a).2.1 ≠ (TTr b).2.1 := by decide +kernel
theorem dfTr : ∀ j, j < 14 → defaultValue (ma_ft 3 j) = if ma_fk 3 j = true then .null else .int 0 := by decide +kernel
theorem inBk : ∀ w ∈ u_ws RBk TBk 9, w ∈ lw_tbl := by decide +kernel
theorem ftBk : ∀ j, j < 9 → parseFieldDescriptor (TBk j).2.2.1 = some (ma_ft 4 j) := by decide +kernel
theorem nmBk : ∀ a, a < 9 → ∀ b, b < 9 → a ≠ b → (TBk a).2.1 ≠ (TBk b).2.1 := by decide +kernel
theorem dfBk : ∀ j, j < 9 → defaultValue (ma_ft 4 j) = if ma_fk 4 j = true then .null else .int 0 := by decide +kernel
theorem inMo : ∀ w ∈ u_ws RMo TMo 30, w ∈ lw_tbl := by decide +kernel
theorem ftMo : ∀ j, j < 30 → parseFieldDescriptor (TMo j).2.2.1 = some (ma_ft 5 j) := by decide +kernel
theorem nmMo : ∀ a, a < 30 → ∀ b, b < 30 → a ≠ b → (TMo a).2.1 ≠ (TMo b).2.1 := by decide +kernel
theorem dfMo : ∀ j, j < 30 → defaultValue (ma_ft 5 j) = if ma_fk 5 j = true then .null else .int 0 := by decide +kernel
/-- the words that stay true as the tables warm -/
def ma_w : Cond → Bool
  | .methodLinkNest .. => true
  | .arrayOver (.object _) => true
  | .declares _ => true
  | .castable .. => true
  | .stringRef .. => true
  | c => goodWord c
def maT : List Cond := lw_tbl.filter ma_w
theorem ma_in {c : Cond} (h : c ∈ lw_tbl) (hw : ma_w c = true) : c ∈ maT := List.mem_filter.mpr ⟨h, hw⟩
/-- the words of Throwable's two statics, which stand in the heap -/
def maH : List Cond := [.laysStatic "java/lang/Throwable" "UNASSIGNED_STACK" "[Ljava/lang/StackTraceElement;", .laysStatic "java/lang/Throwable" "SUPPRESSED_SENTINEL" "Ljava/util/List;", .isRef (.static "java/lang/Throwable" "UNASSIGNED_STACK" "[Ljava/lang/StackTraceElement;"), .isRef (.static "java/lang/Throwable" "SUPPRESSED_SENTINEL" "Ljava/util/List;")]
theorem ma_good : ∀ c ∈ maT, ma_w c = true := fun _ h => (List.mem_filter.mp h).2
theorem ma_keep {args a' : Array Value} {s U : State} (hW : s.WarmedH U.vm) {c : Cond} (hw : ma_w c = true) (h : c.before args s = true) : c.before a' U = true := by
  have tab : ∀ {c : Cond}, c.onTables = true → c.before args (s.setVm U.vm) = true → c.before a' U = true := fun hc hb => va_tabs (u := s.setVm U.vm) (U := U) hc rfl hb
  cases c with
  | methodLinkNest a i x b => exact va_Nw.use rfl (va_Nw.warmM hW (va_Nw.of rfl h))
  | declares x => exact va_Nw.use rfl (va_Nw.warmD hW (va_Nw.of rfl h))
  | castable a b => exact tab rfl (by rw [Cond.castable_setVm hW.alike]; exact h)
  | stringRef a i b =>
    have h1 := Cond.stringRef_warmed hW h
    simp only [Cond.before, Cond.holds, Cond.value] at h1 ⊢
    exact h1
  | arrayOver ty =>
    cases ty with
    | object C => exact va_AO.use (va_AO.moved hW.alike (va_AO.of h))
    | _ => exact word_at hW (good_of_word hw) h
  | _ => exact word_at hW (good_of_word hw) h
theorem ma_keepL {args a' : Array Value} {s U : State} {C n d : String} (hW : s.WarmedH U.vm) (hH : ∀ (q : Nat) (cell : Cell), s.heap[q]? = some cell → cell.vm.isStatics = true → U.heap[q]? = some cell) (h : (Cond.laysStatic C n d).before args s = true) : (Cond.laysStatic C n d).before a' U = true := by
  obtain ⟨c, k, i, f, a, cell, hc, hi, hst, ha, hcell, hs, hcls, hlt, hty⟩ := Cond.laysStatic_spec h
  obtain ⟨k', hi', he⟩ := State.fieldFound?_setVm hW.alike hi
  have hi2 : U.fieldFound? C n d = some (c, k', i, f) := hi'
  have hc2 : U.vm.findClass C = some c := by rw [hW.alike.findClass]; exact hc
  have ha2 : k'.statics = some a := by rw [he]; exact ha
  have hty2 : k'.staticTypes[f.slot]? = some f.type := by rw [he]; exact hty
  have hcell2 := hH a cell hcell hs
  simp [Cond.before, Cond.holds, Cond.value, hc2, hi2, ha2, hcell2, hst, hs, hcls, hlt, hty2]
theorem ma_keepR {args a' : Array Value} {s U : State} {C n d : String} (hW : s.WarmedH U.vm) (hH : ∀ (q : Nat) (cell : Cell), s.heap[q]? = some cell → cell.vm.isStatics = true → U.heap[q]? = some cell) (hl : (Cond.laysStatic C n d).before args s = true) (h : (Cond.isRef (.static C n d)).before args s = true) : (Cond.isRef (.static C n d)).before a' U = true := by
  obtain ⟨c, k, i, f, a, cell, hc, hi, hst, ha, hcell, hs, hcls, hlt, hty⟩ := Cond.laysStatic_spec hl
  obtain ⟨k', hi', he⟩ := State.fieldFound?_setVm hW.alike hi
  have hi2 : U.fieldFound? C n d = some (c, k', i, f) := hi'
  have ha2 : k'.statics = some a := by rw [he]; exact ha
  have hcell2 := hH a cell hcell hs
  cases hv : (Term.static C n d).eval args s none [] s with
  | none => simp [Cond.before, Cond.holds, Cond.value, hv] at h
  | some x =>
    obtain ⟨-, a2, cell2, e1, e2, -, hslot⟩ := Term.static_spec hi hv
    cases ha.symm.trans e1
    cases hcell.symm.trans e2
    have hv2 : (Term.static C n d).eval a' U none [] U = some x := by simp [Term.eval, State.fieldNamed?, hi2, ha2, hcell2, hst, hs, hslot]
    simp only [Cond.before, Cond.holds, Cond.value, hv] at h
    simp only [Cond.before, Cond.holds, Cond.value, hv2]
    exact h
theorem ma_keepH {args a' : Array Value} {s U : State} (hW : s.WarmedH U.vm) (hH : ∀ (q : Nat) (cell : Cell), s.heap[q]? = some cell → cell.vm.isStatics = true → U.heap[q]? = some cell) (h : ∀ w ∈ maH, w.before args s = true) : ∀ w ∈ maH, w.before a' U = true := by
  have h1 := h _ (by simp [maH] : Cond.laysStatic "java/lang/Throwable" "UNASSIGNED_STACK" "[Ljava/lang/StackTraceElement;" ∈ maH)
  have h2 := h _ (by simp [maH] : Cond.laysStatic "java/lang/Throwable" "SUPPRESSED_SENTINEL" "Ljava/util/List;" ∈ maH)
  intro w hw
  simp only [maH, List.mem_cons, List.not_mem_nil, or_false] at hw
  rcases hw with rfl | rfl | rfl | rfl
  · exact ma_keepL hW hH h1
  · exact ma_keepL hW hH h2
  · exact ma_keepR hW hH h1 (h _ (by simp [maH]))
  · exact ma_keepR hW hH h2 (h _ (by simp [maH]))
theorem iTDo : ∀ w ∈ u_ws RDo TDo 8, w ∈ maT := fun w h => ma_in (inDo w h) ((by decide +kernel : ∀ w ∈ u_ws RDo TDo 8, ma_w w = true) w h)
theorem iTCh : ∀ w ∈ u_ws RCh TCh 5, w ∈ maT := fun w h => ma_in (inCh w h) ((by decide +kernel : ∀ w ∈ u_ws RCh TCh 5, ma_w w = true) w h)
theorem iTOr : ∀ w ∈ u_ws ROr TOr 3, w ∈ maT := fun w h => ma_in (inOr w h) ((by decide +kernel : ∀ w ∈ u_ws ROr TOr 3, ma_w w = true) w h)
theorem iTTr : ∀ w ∈ u_ws RTr TTr 14, w ∈ maT := fun w h => ma_in (inTr w h) ((by decide +kernel : ∀ w ∈ u_ws RTr TTr 14, ma_w w = true) w h)
theorem iTBk : ∀ w ∈ u_ws RBk TBk 9, w ∈ maT := fun w h => ma_in (inBk w h) ((by decide +kernel : ∀ w ∈ u_ws RBk TBk 9, ma_w w = true) w h)
theorem iTMo : ∀ w ∈ u_ws RMo TMo 30, w ∈ maT := fun w h => ma_in (inMo w h) ((by decide +kernel : ∀ w ∈ u_ws RMo TMo 30, ma_w w = true) w h)
end
section
/-! THE SMALL MACHINE. Values (an int, a reference by class and number, a long), a heap by class, number and place, and the judgement Go: 'from here the invocation ends, and Q holds of its outcome and heap'. cl: nothing has been written or made yet; rd: nothing will have been. Classes: below 90 those of maCl; 97 a thrown object that nobody looks at; 98 nothing known; 99 the script; 100 int[], 101 long[], 102 boolean[], 110 and on arrays of objects. -/
abbrev AV : Type := Int32 ⊕ (Option (Nat × Nat) ⊕ Int64)
abbrev vI (x : Int32) : AV := Sum.inl x
abbrev vR (r : Option (Nat × Nat)) : AV := Sum.inr (Sum.inl r)
abbrev vO (c i : Nat) : AV := Sum.inr (Sum.inl (some (c, i)))
abbrev vL (z : Int64) : AV := Sum.inr (Sum.inr z)
abbrev vU : AV := vO 98 0
abbrev AH : Type := (Nat → Nat → Nat → Int32) × (Nat → Nat → Nat → Option (Nat × Nat)) × (Nat → Nat → Nat → Int64) × (Nat → Nat → Nat) × (Nat → Nat)
abbrev GO : Type := Option AV ⊕ Nat
abbrev MD : Type := MethodName × ByteArray × Nat × Option FieldType × List (Nat × Nat × Nat × Nat)
abbrev ma_n (h : AH) : Nat → Nat := h.2.2.2.2
def ma_up {α : Type} (f : Nat → Nat → Nat → α) (c i k : Nat) (v : α) : Nat → Nat → Nat → α := fun c' i' k' => if c' = c ∧ i' = i ∧ k' = k then v else f c' i' k'
def ma_u2 {α : Type} (f : Nat → Nat → α) (c i : Nat) (v : α) : Nat → Nat → α := fun c' i' => if c' = c ∧ i' = i then v else f c' i'
def ma_rf (ad : Nat → Nat → Nat) (r : Option (Nat × Nat)) : Value := match r with
  | none => .null
  | some x => .ref (ad x.1 x.2)
def ma_fs (ad : Nat → Nat → Nat) (h : AH) (c i : Nat) : List Value := (List.range (ma_nf c)).map (fun k => if ma_fk c k = true then ma_rf ad (h.2.1 c i k) else .int (h.1 c i k))
def ma_ar (ad : Nat → Nat → Nat) (h : AH) (c i : Nat) : vp_A := (h.2.2.2.1 c i, if c = 101 then .inr (.inl (h.2.2.1 c i)) else if c < 110 then .inl (h.1 c i) else .inr (.inr (.inr (.inr (fun j => (h.2.1 c i j).map (fun x => ad x.1 x.2))))))
def ma_E (aC : Nat → ClassId) (ad : Nat → Nat → Nat) (h : AH) (x : Nat × Nat) : va_E := if x.1 < 90 then .inr (x.1, ma_fs ad h x.1 x.2) else .inl (aC x.1, ma_ar ad h x.1 x.2)
def ma_ws (aC : Nat → ClassId) (ad : Nat → Nat → Nat) (h : AH) (Ls : List (Nat × Nat)) : va_W := Ls.map (fun x => (ad x.1 x.2, ma_E aC ad h x))
/-- references lead to what there is; what isn't made yet is 0 -/
def ma_cls (h : AH) : Prop := (∀ k i j r, i < ma_n h k → h.2.1 k i j = some r → r.2 < ma_n h r.1) ∧ ∀ k i j, ma_n h k ≤ i → h.1 k i j = 0 ∧ h.2.1 k i j = none ∧ h.2.2.1 k i j = 0
/-- the machine's heap holds the small heap -/
def ma_HR (D : va_G) (aC : Nat → ClassId) (A : Nat → Prop) (ad : Nat → Nat → Nat) (h : AH) (H : Heap) : Prop := ∃ Ls : List (Nat × Nat), (∀ x, x ∈ Ls ↔ x.2 < ma_n h x.1) ∧ Ls.Nodup ∧ va_P D maCl (ma_ws aC ad h Ls) H ∧ va_D A (ma_ws aC ad h Ls) ∧ (∀ k, 90 ≤ k → k < 100 → ma_n h k = 0) ∧ ma_cls h
def ma_RV (ad : Nat → Nat → Nat) (n : Nat → Nat) (v : AV) (x : Value) : Prop := match v with
  | .inl i => x = .int i
  | .inr (.inr z) => x = .long z
  | .inr (.inl none) => x = .null
  | .inr (.inl (some r)) => (r.1 = 97 ∧ ∃ a, x = .ref a) ∨ (r.1 = 99 ∧ x = .ref (ad 99 0)) ∨ (r.2 < n r.1 ∧ x = .ref (ad r.1 r.2))
def ma_SR (ad : Nat → Nat → Nat) (n : Nat → Nat) : List AV → List Value → Prop
  | [], S => S = []
  | v :: vs, S => ∃ x S', S = x :: S' ∧ ma_RV ad n v x ∧ ma_SR ad n vs S'
/-- no local is a long -/
def ma_nl (v : AV) : Prop := match v with
  | .inr (.inr _) => False
  | _ => True
def ma_LR (ad : Nat → Nat → Nat) (n : Nat → Nat) (N : Nat) (ls : List AV) (L : Array Slot) : Prop := L.size = N ∧ lv_wf L ∧ ∀ (k : Nat) (v : AV), ls[k]? = some v → v = vU ∨ (ma_nl v ∧ ∃ x : Value, L[k]? = some (Slot.val x) ∧ ma_RV ad n v x)
def ma_Ex (ad0 : Nat → Nat → Nat) (n0 : Nat → Nat) (ad : Nat → Nat → Nat) (n : Nat → Nat) : Prop := (∀ k i, i < n0 k → ad k i = ad0 k i ∧ i < n k) ∧ ad 99 0 = ad0 99 0
/-- an exception of the kind k lies at a -/
def ma_Ek (k : Nat) (a : Addr) (t : State) : Prop := ∃ cell : Cell, t.heap[a]? = some cell ∧ cell.vm.isStatics = false ∧ t.vm.findClass (ma_en k) = some cell.cls
def ma_OR (ad : Nat → Nat → Nat) (n : Nat → Nat) (g : GO) (o : Outcome) (t : State) : Prop := match g with
  | .inl none => o = .returned none
  | .inl (some v) => ∃ x, o = .returned (some x) ∧ ma_RV ad n v x
  | .inr k => ∃ a, o = .threw a ∧ ma_Ek k a t
def ma_Z (below : List Frame) (D : va_G) (aC : Nat → ClassId) (A : Nat → Prop) (ad0 : Nat → Nat → Nat) (n0 : Nat → Nat) (rd : Bool) (Q : GO → AH → Prop) (s : State) (mc ms : Nat) : State → Prop := fun t => ∃ o, t.status = .running ∧ Ended t below o ∧ s.WarmedH t.vm ∧ (∃ L, s.sameButNew ({ t with vm := s.vm } : State) L mc ms ∧ (∀ q ∈ L, A q.base) ∧ (rd = true → L = [])) ∧ va_F A s t ∧ ∃ (g : GO) (h' : AH) (ad' : Nat → Nat → Nat), Q g h' ∧ ma_OR ad' (ma_n h') g o t ∧ ma_HR D aC A ad' h' t.heap ∧ ma_Ex ad0 n0 ad' (ma_n h')
/-- what stands fast in a method -/
def ma_Cx (y : MD) (p : Program) (l : Launch) (s : State) (m : MethodId) (args : Array Value) (meth : Method) (c : Code) (D : va_G) (aC : Nat → ClassId) : Prop :=
  p.tables.exec = Jvm.exec ∧ c.code = y.2.1 ∧ c.maxLocals = y.2.2.1 ∧ meth.sig.returnType = y.2.2.2.1 ∧ s.vm.findClass y.1.cls = some m.cls ∧ (∀ w ∈ maT, w.before args s = true) ∧ meth.locks = false ∧ meth.name = y.1.name ∧ c.exceptionTable.toList = tableOf y.2.2.2.2 ∧ va_K D maCl [] s ∧ (∀ k ty, ma_ty k = some ty → ArrOfT s (aC k) ty ∧ va_RA s (aC k) ty) ∧ (∀ j k, 1 ≤ j → j ≤ 4 → 1 ≤ k → k ≤ 4 → j ≠ k → va_Nc (ma_en j) (ma_en k) s) ∧ l.flags = flags0 ∧ ∀ w ∈ maH, w.before args s = true
def ma_Rm (d bc bs : Nat) (R : Room) (cells slots mc ms : Nat) : Prop := d ≤ R.frames ∧ 64 * d ≤ R.locals ∧ cells + bc ≤ mc ∧ slots + bs ≤ ms ∧ mc ≤ R.cells ∧ ms ≤ R.slots
def ma_SX (sc : Nat × (Nat → Int32)) (A : Nat → Prop) (ad : Nat → Nat → Nat) (s : State) : Prop := va_X (ad 99 0) sc.1 sc.2 s s.heap ∧ ¬ A (ad 99 0) ∧ ad 99 0 < s.heap.size ∧ ∀ (q : Nat) (cell : Cell), A q → s.heap[q]? = some cell → cell.vm.isStatics = false
/-- all that changes from step to step -/
def ma_Dy (sc : Nat × (Nat → Int32)) (cl : Bool) (d bc bs : Nat) (y : MD) (ls st : List AV) (h : AH) (R : Room) (s : State) (H : Heap) (locs : List Loc) (cells slots mc ms : Nat) (D : va_G) (aC : Nat → ClassId) (A : Nat → Prop) (ad ad0 : Nat → Nat → Nat) (n0 : Nat → Nat) (L : Array Slot) (S : List Value) : Prop :=
  ma_Rm d bc bs R cells slots mc ms ∧ ma_HR D aC A ad h H ∧ ma_SX sc A ad s ∧ va_S A s.heap H locs ∧ (∀ q, s.heap.size ≤ q → A q) ∧ ma_Ex ad0 n0 ad (ma_n h) ∧ ma_LR ad (ma_n h) y.2.2.1 ls L ∧ ma_SR ad (ma_n h) st S ∧ (cl = true → locs = [] ∧ ma_HR D aC A ad h s.heap)
def Go (sc : Nat × (Nat → Int32)) (cl rd : Bool) (d bc bs : Nat) (y : MD) (pc : Nat) (ls st : List AV) (h : AH) (Q : GO → AH → Prop) : Prop :=
  ∀ (p : Program) (l : Launch) (e : Env) (R : Room) (s : State) (m : MethodId) (args : Array Value) (below : List Frame) (meth : Method) (c : Code) (H : Heap) (locs : List Loc) (cells slots mc ms : Nat) (D : va_G) (aC : Nat → ClassId) (A : Nat → Prop) (ad ad0 : Nat → Nat → Nat) (n0 : Nat → Nat) (L : Array Slot) (S : List Value),
    ma_Cx y p l s m args meth c D aC → ma_Dy sc cl d bc bs y ls st h R s H locs cells slots mc ms D aC A ad ad0 n0 L S → W p l e R s m args below meth c H locs cells slots (ma_Z below D aC A ad0 n0 rd Q s mc ms) (F0 m pc L S)
/-- more may be asked of the start than is needed -/
theorem Go.weak {sc : Nat × (Nat → Int32)} {cl rd : Bool} {d bc bs : Nat} {y : MD} {pc : Nat} {ls st : List AV} {h : AH} {Q : GO → AH → Prop} (k : Go sc false rd d bc bs y pc ls st h Q) : Go sc cl rd d bc bs y pc ls st h Q := by
  intro p l e R s m args below meth c H locs cells slots mc ms D aC A ad ad0 n0 L S hC hDy
  obtain ⟨a1, a2, a3, a4, a5, a6, a7, a8, a9⟩ := hDy
  exact k p l e R s m args below meth c H locs cells slots mc ms D aC A ad ad0 n0 L S hC ⟨a1, a2, a3, a4, a5, a6, a7, a8, fun h9 => nomatch h9⟩
theorem ma_up_self {α : Type} (f : Nat → Nat → Nat → α) (c i k : Nat) (v : α) : ma_up f c i k v c i k = v := by simp [ma_up]
theorem ma_RV_ext {ad ad' : Nat → Nat → Nat} {n n' : Nat → Nat} {v : AV} {x : Value} (he : ma_Ex ad n ad' n') (h : ma_RV ad n v x) : ma_RV ad' n' v x := by
  rcases v with i | ⟨_ | r⟩ | z
  · exact h
  · exact h
  · rcases h with h | ⟨h1, h2⟩ | ⟨h1, h2⟩
    · exact Or.inl h
    · exact Or.inr (Or.inl ⟨h1, by rw [he.2]; exact h2⟩)
    · obtain ⟨e1, e2⟩ := he.1 _ _ h1
      exact Or.inr (Or.inr ⟨e2, by rw [e1]; exact h2⟩)
  · exact h
theorem ma_SR_ext {ad ad' : Nat → Nat → Nat} {n n' : Nat → Nat} (he : ma_Ex ad n ad' n') : ∀ {st : List AV} {S : List Value}, ma_SR ad n st S → ma_SR ad' n' st S
  | [], _, h => h
  | _ :: _, _, ⟨x, S', e, h1, h2⟩ => ⟨x, S', e, ma_RV_ext he h1, ma_SR_ext he h2⟩
theorem ma_LR_ext {ad ad' : Nat → Nat → Nat} {n n' : Nat → Nat} {N : Nat} {ls : List AV} {L : Array Slot} (he : ma_Ex ad n ad' n') (h : ma_LR ad n N ls L) : ma_LR ad' n' N ls L :=
  ⟨h.1, h.2.1, fun k v hk => (h.2.2 k v hk).imp id (fun ⟨a, x, b, d⟩ => ⟨a, x, b, ma_RV_ext he d⟩)⟩
theorem ma_Ex_rf {ad : Nat → Nat → Nat} {n : Nat → Nat} : ma_Ex ad n ad n := ⟨fun _ _ h => ⟨rfl, h⟩, rfl⟩
theorem ma_Ex_tr {ad ad1 ad2 : Nat → Nat → Nat} {n n1 n2 : Nat → Nat} (h1 : ma_Ex ad n ad1 n1) (h2 : ma_Ex ad1 n1 ad2 n2) : ma_Ex ad n ad2 n2 :=
  ⟨fun k i h => by obtain ⟨a, b⟩ := h1.1 k i h; obtain ⟨a2, b2⟩ := h2.1 k i b; exact ⟨a2.trans a, b2⟩, h2.2.trans h1.2⟩
theorem ma_W_mono {p : Program} {l : Launch} {e : Env} {R : Room} {s : State} {m : MethodId} {args : Array Value} {below : List Frame} {meth : Method} {c : Code} {H : Heap} {locs : List Loc} {cells slots : Nat} {Q Q' : State → Prop} {g : JFrame} (hq : ∀ t, Q t → Q' t) (k : W p l e R s m args below meth c H locs cells slots Q g) : W p l e R s m args below meth c H locs cells slots Q' g := fun T hT X => by
  obtain ⟨t, a, b⟩ := k T hT X
  exact ⟨t, a, hq t b⟩
theorem Go.mono {sc : Nat × (Nat → Int32)} {cl rd : Bool} {d bc bs : Nat} {y : MD} {pc : Nat} {ls st : List AV} {h : AH} {Q Q' : GO → AH → Prop} (hq : ∀ g h', Q g h' → Q' g h') (k : Go sc cl rd d bc bs y pc ls st h Q) : Go sc cl rd d bc bs y pc ls st h Q' := by
  intro p l e R s m args below meth c H locs cells slots mc ms D aC A ad ad0 n0 L S hC hDy
  refine ma_W_mono ?_ (k p l e R s m args below meth c H locs cells slots mc ms D aC A ad ad0 n0 L S hC hDy)
  rintro t ⟨o, h1, h2, h3, h4, h5, g, h', ad', h6, h7⟩
  exact ⟨o, h1, h2, h3, h4, h5, g, h', ad', hq _ _ h6, h7⟩
theorem Go.wide {sc : Nat × (Nat → Int32)} {cl rd : Bool} {d d' bc bs bc' bs' : Nat} {y : MD} {pc : Nat} {ls st : List AV} {h : AH} {Q : GO → AH → Prop} (k : Go sc cl rd d bc bs y pc ls st h Q) (hd : d ≤ d') (h1 : bc ≤ bc') (h2 : bs ≤ bs') : Go sc cl rd d' bc' bs' y pc ls st h Q := by
  intro p l e R s m args below meth c H locs cells slots mc ms D aC A ad ad0 n0 L S hC hDy
  refine k p l e R s m args below meth c H locs cells slots mc ms D aC A ad ad0 n0 L S hC ⟨?_, hDy.2⟩
  obtain ⟨⟨a1, a2, a3, a4, a5, a6⟩, -⟩ := hDy
  exact ⟨by omega, by omega, by omega, by omega, a5, a6⟩
/-- what is known of locals may be forgotten -/
theorem Go.locs {sc : Nat × (Nat → Int32)} {cl rd : Bool} {d bc bs : Nat} {y : MD} {pc : Nat} {ls ls' st : List AV} {h : AH} {Q : GO → AH → Prop} (hl : ∀ (k : Nat) (v : AV), ls'[k]? = some v → v = vU ∨ ls[k]? = some v) (k : Go sc cl rd d bc bs y pc ls' st h Q) : Go sc cl rd d bc bs y pc ls st h Q := by
  intro p l e R s m args below meth c H locs cells slots mc ms D aC A ad ad0 n0 L S hC hDy
  obtain ⟨a1, a2, a3, a4, a5, a6, a7, a8, a9⟩ := hDy
  exact k p l e R s m args below meth c H locs cells slots mc ms D aC A ad ad0 n0 L S hC ⟨a1, a2, a3, a4, a5, a6, ⟨a7.1, a7.2.1, fun j v hv => (hl j v hv).elim Or.inl (a7.2.2 j v)⟩, a8, a9⟩
/-- a place of the locals is stored to -/
def ma_all (L : Array Slot) : List (Nat × Value) := (List.range L.size).filterMap (fun (k : Nat) => match (L[k]? : Option Slot) with
  | some (Slot.val x) => some (k, x)
  | _ => none)
theorem ma_all_mem {L : Array Slot} {k : Nat} {x : Value} : (k, x) ∈ ma_all L ↔ L[k]? = some (.val x) := by
  constructor
  · intro h
    obtain ⟨j, hj, h2⟩ := List.mem_filterMap.mp h
    split at h2
    next y hy => cases h2; exact hy
    next => cases h2
  · intro h
    refine List.mem_filterMap.mpr ⟨k, List.mem_range.mpr (lv_lt h), ?_⟩
    simp [h]
theorem ma_all_has {ad : Nat → Nat → Nat} {n : Nat → Nat} {N : Nat} {ls : List AV} {L : Array Slot} (h : ma_LR ad n N ls L) : lv_has L N (ma_all L) := ⟨h.1, h.2.1, fun q hq => ma_all_mem.mp hq⟩
theorem ma_RV_cat {ad : Nat → Nat → Nat} {n : Nat → Nat} {v : AV} {x : Value} (hn : ma_nl v) (h : ma_RV ad n v x) : x.category = 1 := by
  rcases v with i | ⟨_ | r⟩ | z
  · cases h; rfl
  · cases h; rfl
  · rcases h with ⟨-, a, rfl⟩ | ⟨-, rfl⟩ | ⟨-, rfl⟩ <;> rfl
  · exact hn.elim
theorem ma_LR_set {ad : Nat → Nat → Nat} {n : Nat → Nat} {N i : Nat} {ls : List AV} {L L' : Array Slot} {v : AV} {x : Value} (h : ma_LR ad n N ls L) (hn : ma_nl v) (hv : ma_RV ad n v x) (h' : lv_has L' N ((i, x) :: (ma_all L).filter (fun q => !(q.1 == i) && !(q.1 + 1 == i && q.2.category == 2)))) : ma_LR ad n N (ls.set i v) L' := by
  refine ⟨h'.1, h'.2.1, fun k w hk => ?_⟩
  by_cases hki : k = i
  · subst hki
    have hlt : k < ls.length := by
      have := (List.getElem?_eq_some_iff.mp hk).1
      simpa using this
    rw [List.getElem?_set_self hlt] at hk
    cases hk
    exact Or.inr ⟨hn, x, h'.2.2 (k, x) List.mem_cons_self, hv⟩
  · rw [List.getElem?_set_ne (Ne.symm hki)] at hk
    rcases h.2.2 k w hk with q | ⟨q1, z, q2, q3⟩
    · exact Or.inl q
    · refine Or.inr ⟨q1, z, h'.2.2 (k, z) (List.mem_cons_of_mem _ (List.mem_filter.mpr ⟨ma_all_mem.mpr q2, ?_⟩)), q3⟩
      have hc := ma_RV_cat q1 q3
      simp [hki, hc]

theorem Go.iconst {sc : Nat × (Nat → Int32)} {cl rd : Bool} {d bc bs : Nat} {y : MD} {pc : Nat} {ls st : List AV} {h : AH} {Q : GO → AH → Prop} {n : Int} {v : Int32} (hd : decode y.2.1 pc = .ok (.iconst n, 1)) (hv : Int32.ofInt n = v) (k : Go sc cl rd d bc bs y (pc + 1) ls (vI v :: st) h Q) : Go sc cl rd d bc bs y pc ls st h Q := by
  intro p l e R s m args below meth c H locs cells slots mc ms D aC A ad ad0 n0 L S hC hDy
  obtain ⟨hx, hb, hml, hr, hown, hts, hlocks, hnm, hex, hK, hKa, hNc, hfl, hmH⟩ := id hC
  obtain ⟨hRm, hHR, hSX, hS, hA, hEx, hL, hSt, hCl⟩ := id hDy
  exact lv_iconst hx hb hd hv (k p l e R s m args below meth c H locs cells slots mc ms D aC A ad ad0 n0 L (.int v :: S) hC ⟨hRm, hHR, hSX, hS, hA, hEx, hL, ⟨_, _, rfl, rfl, hSt⟩, hCl⟩)

theorem Go.bipush {sc : Nat × (Nat → Int32)} {cl rd : Bool} {d bc bs : Nat} {y : MD} {pc : Nat} {ls st : List AV} {h : AH} {Q : GO → AH → Prop} {n : Int} {v : Int32} (hd : decode y.2.1 pc = .ok (.bipush n, 2)) (hv : (Int8.ofInt n).toInt32 = v) (k : Go sc cl rd d bc bs y (pc + 2) ls (vI v :: st) h Q) : Go sc cl rd d bc bs y pc ls st h Q := by
  intro p l e R s m args below meth c H locs cells slots mc ms D aC A ad ad0 n0 L S hC hDy
  obtain ⟨hx, hb, hml, hr, hown, hts, hlocks, hnm, hex, hK, hKa, hNc, hfl, hmH⟩ := id hC
  obtain ⟨hRm, hHR, hSX, hS, hA, hEx, hL, hSt, hCl⟩ := id hDy
  exact lv_bipush hx hb hd hv (k p l e R s m args below meth c H locs cells slots mc ms D aC A ad ad0 n0 L (.int v :: S) hC ⟨hRm, hHR, hSX, hS, hA, hEx, hL, ⟨_, _, rfl, rfl, hSt⟩, hCl⟩)

theorem Go.sipush {sc : Nat × (Nat → Int32)} {cl rd : Bool} {d bc bs : Nat} {y : MD} {pc : Nat} {ls st : List AV} {h : AH} {Q : GO → AH → Prop} {n : Int} {v : Int32} (hd : decode y.2.1 pc = .ok (.sipush n, 3)) (hv : (Int16.ofInt n).toInt32 = v) (k : Go sc cl rd d bc bs y (pc + 3) ls (vI v :: st) h Q) : Go sc cl rd d bc bs y pc ls st h Q := by
  intro p l e R s m args below meth c H locs cells slots mc ms D aC A ad ad0 n0 L S hC hDy
  obtain ⟨hx, hb, hml, hr, hown, hts, hlocks, hnm, hex, hK, hKa, hNc, hfl, hmH⟩ := id hC
  obtain ⟨hRm, hHR, hSX, hS, hA, hEx, hL, hSt, hCl⟩ := id hDy
  exact lv_sipush hx hb hd hv (k p l e R s m args below meth c H locs cells slots mc ms D aC A ad ad0 n0 L (.int v :: S) hC ⟨hRm, hHR, hSX, hS, hA, hEx, hL, ⟨_, _, rfl, rfl, hSt⟩, hCl⟩)

theorem Go.ldci {sc : Nat × (Nat → Int32)} {cl rd : Bool} {d bc bs : Nat} {y : MD} {pc : Nat} {ls st : List AV} {h : AH} {Q : GO → AH → Prop} {n : Nat} {v : Int32} (hd : decode y.2.1 pc = .ok (.ldc n, 2)) (hv : Jvm.Cond.constant y.1.cls n v ∈ maT) (k : Go sc cl rd d bc bs y (pc + 2) ls (vI v :: st) h Q) : Go sc cl rd d bc bs y pc ls st h Q := by
  intro p l e R s m args below meth c H locs cells slots mc ms D aC A ad ad0 n0 L S hC hDy
  obtain ⟨hx, hb, hml, hr, hown, hts, hlocks, hnm, hex, hK, hKa, hNc, hfl, hmH⟩ := id hC
  obtain ⟨hRm, hHR, hSX, hS, hA, hEx, hL, hSt, hCl⟩ := id hDy
  exact lv_ldc hx hb hown (hts _ hv) hd (k p l e R s m args below meth c H locs cells slots mc ms D aC A ad ad0 n0 L (.int v :: S) hC ⟨hRm, hHR, hSX, hS, hA, hEx, hL, ⟨_, _, rfl, rfl, hSt⟩, hCl⟩)

theorem Go.iload {sc : Nat × (Nat → Int32)} {cl rd : Bool} {d bc bs : Nat} {y : MD} {pc : Nat} {ls st : List AV} {h : AH} {Q : GO → AH → Prop} {i : Nat} {x : Int32} (hd : decode y.2.1 pc = .ok (.iload i, 2)) (hl : ls[i]? = some (vI x)) (k : Go sc cl rd d bc bs y (pc + 2) ls (vI x :: st) h Q) : Go sc cl rd d bc bs y pc ls st h Q := by
  intro p l e R s m args below meth c H locs cells slots mc ms D aC A ad ad0 n0 L S hC hDy
  obtain ⟨hx, hb, hml, hr, hown, hts, hlocks, hnm, hex, hK, hKa, hNc, hfl, hmH⟩ := id hC
  obtain ⟨hRm, hHR, hSX, hS, hA, hEx, hL, hSt, hCl⟩ := id hDy
  have hz : L[i]? = some (.val (.int x)) := by
    rcases hL.2.2 _ _ hl with q | ⟨-, z, q, rfl⟩
    · cases q
    · exact q
  exact lv_iload hx hb hd hz (k p l e R s m args below meth c H locs cells slots mc ms D aC A ad ad0 n0 L (.int x :: S) hC ⟨hRm, hHR, hSX, hS, hA, hEx, hL, ⟨_, _, rfl, rfl, hSt⟩, hCl⟩)

theorem Go.aload {sc : Nat × (Nat → Int32)} {cl rd : Bool} {d bc bs : Nat} {y : MD} {pc : Nat} {ls st : List AV} {h : AH} {Q : GO → AH → Prop} {i : Nat} {cc ii : Nat} (hd : decode y.2.1 pc = .ok (.aload i, 2)) (hl : ls[i]? = some (vO cc ii)) (hc : cc ≠ 98) (k : Go sc cl rd d bc bs y (pc + 2) ls (vO cc ii :: st) h Q) : Go sc cl rd d bc bs y pc ls st h Q := by
  intro p l e R s m args below meth c H locs cells slots mc ms D aC A ad ad0 n0 L S hC hDy
  obtain ⟨hx, hb, hml, hr, hown, hts, hlocks, hnm, hex, hK, hKa, hNc, hfl, hmH⟩ := id hC
  obtain ⟨hRm, hHR, hSX, hS, hA, hEx, hL, hSt, hCl⟩ := id hDy
  rcases hL.2.2 _ _ hl with q | ⟨-, z, hz, hv⟩
  · cases q; exact absurd rfl hc
  · have hv' : ∃ a, z = .ref a := by
      rcases hv with ⟨-, a, rfl⟩ | ⟨-, rfl⟩ | ⟨-, rfl⟩ <;> exact ⟨_, rfl⟩
    obtain ⟨a, rfl⟩ := hv'
    exact lv_aload hx hb hd hz (k p l e R s m args below meth c H locs cells slots mc ms D aC A ad ad0 n0 L (.ref a :: S) hC ⟨hRm, hHR, hSX, hS, hA, hEx, hL, ⟨_, _, rfl, hv, hSt⟩, hCl⟩)

theorem Go.iload_n {sc : Nat × (Nat → Int32)} {cl rd : Bool} {d bc bs : Nat} {y : MD} {pc : Nat} {ls st : List AV} {h : AH} {Q : GO → AH → Prop} {i : Fin 4} {x : Int32} (hd : decode y.2.1 pc = .ok (.iload_n i, 1)) (hl : ls[(i : Nat)]? = some (vI x)) (k : Go sc cl rd d bc bs y (pc + 1) ls (vI x :: st) h Q) : Go sc cl rd d bc bs y pc ls st h Q := by
  intro p l e R s m args below meth c H locs cells slots mc ms D aC A ad ad0 n0 L S hC hDy
  obtain ⟨hx, hb, hml, hr, hown, hts, hlocks, hnm, hex, hK, hKa, hNc, hfl, hmH⟩ := id hC
  obtain ⟨hRm, hHR, hSX, hS, hA, hEx, hL, hSt, hCl⟩ := id hDy
  have hz : L[(i : Nat)]? = some (.val (.int x)) := by
    rcases hL.2.2 _ _ hl with q | ⟨-, z, q, rfl⟩
    · cases q
    · exact q
  exact lv_iload_n hx hb hd rfl hz (k p l e R s m args below meth c H locs cells slots mc ms D aC A ad ad0 n0 L (.int x :: S) hC ⟨hRm, hHR, hSX, hS, hA, hEx, hL, ⟨_, _, rfl, rfl, hSt⟩, hCl⟩)

theorem Go.aload_n {sc : Nat × (Nat → Int32)} {cl rd : Bool} {d bc bs : Nat} {y : MD} {pc : Nat} {ls st : List AV} {h : AH} {Q : GO → AH → Prop} {i : Fin 4} {cc ii : Nat} (hd : decode y.2.1 pc = .ok (.aload_n i, 1)) (hl : ls[(i : Nat)]? = some (vO cc ii)) (hc : cc ≠ 98) (k : Go sc cl rd d bc bs y (pc + 1) ls (vO cc ii :: st) h Q) : Go sc cl rd d bc bs y pc ls st h Q := by
  intro p l e R s m args below meth c H locs cells slots mc ms D aC A ad ad0 n0 L S hC hDy
  obtain ⟨hx, hb, hml, hr, hown, hts, hlocks, hnm, hex, hK, hKa, hNc, hfl, hmH⟩ := id hC
  obtain ⟨hRm, hHR, hSX, hS, hA, hEx, hL, hSt, hCl⟩ := id hDy
  rcases hL.2.2 _ _ hl with q | ⟨-, z, hz, hv⟩
  · cases q; exact absurd rfl hc
  · have hv' : ∃ a, z = .ref a := by
      rcases hv with ⟨-, a, rfl⟩ | ⟨-, rfl⟩ | ⟨-, rfl⟩ <;> exact ⟨_, rfl⟩
    obtain ⟨a, rfl⟩ := hv'
    exact lv_aload_n hx hb hd rfl hz (k p l e R s m args below meth c H locs cells slots mc ms D aC A ad ad0 n0 L (.ref a :: S) hC ⟨hRm, hHR, hSX, hS, hA, hEx, hL, ⟨_, _, rfl, hv, hSt⟩, hCl⟩)

theorem Go.istore {sc : Nat × (Nat → Int32)} {cl rd : Bool} {d bc bs : Nat} {y : MD} {pc : Nat} {ls st : List AV} {h : AH} {Q : GO → AH → Prop} {i : Nat} {x : Int32} {ls' : List AV} (hd : decode y.2.1 pc = .ok (.istore i, 2)) (hi : i < y.2.2.1) (hl : ls.set i (vI x) = ls') (k : Go sc cl rd d bc bs y (pc + 2) ls' st h Q) : Go sc cl rd d bc bs y pc ls (vI x :: st) h Q := by
  intro p l e R s m args below meth c H locs cells slots mc ms D aC A ad ad0 n0 L S hC hDy
  obtain ⟨hx, hb, hml, hr, hown, hts, hlocks, hnm, hex, hK, hKa, hNc, hfl, hmH⟩ := id hC
  obtain ⟨hRm, hHR, hSX, hS, hA, hEx, hL, hSt, hCl⟩ := id hDy
  obtain ⟨z, S', rfl, rfl, hSt⟩ := hSt
  refine lv_istore hx hb hd (ma_all_has hL) hi rfl (fun L' hL' => ?_)
  subst hl
  exact k p l e R s m args below meth c H locs cells slots mc ms D aC A ad ad0 n0 L' S' hC ⟨hRm, hHR, hSX, hS, hA, hEx, ma_LR_set hL trivial rfl hL', hSt, hCl⟩

theorem Go.astore {sc : Nat × (Nat → Int32)} {cl rd : Bool} {d bc bs : Nat} {y : MD} {pc : Nat} {ls st : List AV} {h : AH} {Q : GO → AH → Prop} {i : Nat} {cc ii : Nat} {ls' : List AV} (hd : decode y.2.1 pc = .ok (.astore i, 2)) (hi : i < y.2.2.1) (hl : ls.set i (vO cc ii) = ls') (k : Go sc cl rd d bc bs y (pc + 2) ls' st h Q) : Go sc cl rd d bc bs y pc ls (vO cc ii :: st) h Q := by
  intro p l e R s m args below meth c H locs cells slots mc ms D aC A ad ad0 n0 L S hC hDy
  obtain ⟨hx, hb, hml, hr, hown, hts, hlocks, hnm, hex, hK, hKa, hNc, hfl, hmH⟩ := id hC
  obtain ⟨hRm, hHR, hSX, hS, hA, hEx, hL, hSt, hCl⟩ := id hDy
  obtain ⟨z, S', rfl, hv, hSt⟩ := hSt
  have hv' : ∃ a, z = .ref a := by
    rcases hv with ⟨-, a, rfl⟩ | ⟨-, rfl⟩ | ⟨-, rfl⟩ <;> exact ⟨_, rfl⟩
  obtain ⟨a, rfl⟩ := hv'
  refine lv_astore hx hb hd (ma_all_has hL) hi rfl (fun L' hL' => ?_)
  subst hl
  exact k p l e R s m args below meth c H locs cells slots mc ms D aC A ad ad0 n0 L' S' hC ⟨hRm, hHR, hSX, hS, hA, hEx, ma_LR_set hL trivial hv hL', hSt, hCl⟩

theorem Go.istore_n {sc : Nat × (Nat → Int32)} {cl rd : Bool} {d bc bs : Nat} {y : MD} {pc : Nat} {ls st : List AV} {h : AH} {Q : GO → AH → Prop} {i : Fin 4} {x : Int32} {ls' : List AV} (hd : decode y.2.1 pc = .ok (.istore_n i, 1)) (hi : (i : Nat) < y.2.2.1) (hl : ls.set (i : Nat) (vI x) = ls') (k : Go sc cl rd d bc bs y (pc + 1) ls' st h Q) : Go sc cl rd d bc bs y pc ls (vI x :: st) h Q := by
  intro p l e R s m args below meth c H locs cells slots mc ms D aC A ad ad0 n0 L S hC hDy
  obtain ⟨hx, hb, hml, hr, hown, hts, hlocks, hnm, hex, hK, hKa, hNc, hfl, hmH⟩ := id hC
  obtain ⟨hRm, hHR, hSX, hS, hA, hEx, hL, hSt, hCl⟩ := id hDy
  obtain ⟨z, S', rfl, rfl, hSt⟩ := hSt
  refine lv_istore_n hx hb hd rfl (ma_all_has hL) hi rfl (fun L' hL' => ?_)
  subst hl
  exact k p l e R s m args below meth c H locs cells slots mc ms D aC A ad ad0 n0 L' S' hC ⟨hRm, hHR, hSX, hS, hA, hEx, ma_LR_set hL trivial rfl hL', hSt, hCl⟩

theorem Go.astore_n {sc : Nat × (Nat → Int32)} {cl rd : Bool} {d bc bs : Nat} {y : MD} {pc : Nat} {ls st : List AV} {h : AH} {Q : GO → AH → Prop} {i : Fin 4} {cc ii : Nat} {ls' : List AV} (hd : decode y.2.1 pc = .ok (.astore_n i, 1)) (hi : (i : Nat) < y.2.2.1) (hl : ls.set (i : Nat) (vO cc ii) = ls') (k : Go sc cl rd d bc bs y (pc + 1) ls' st h Q) : Go sc cl rd d bc bs y pc ls (vO cc ii :: st) h Q := by
  intro p l e R s m args below meth c H locs cells slots mc ms D aC A ad ad0 n0 L S hC hDy
  obtain ⟨hx, hb, hml, hr, hown, hts, hlocks, hnm, hex, hK, hKa, hNc, hfl, hmH⟩ := id hC
  obtain ⟨hRm, hHR, hSX, hS, hA, hEx, hL, hSt, hCl⟩ := id hDy
  obtain ⟨z, S', rfl, hv, hSt⟩ := hSt
  have hv' : ∃ a, z = .ref a := by
    rcases hv with ⟨-, a, rfl⟩ | ⟨-, rfl⟩ | ⟨-, rfl⟩ <;> exact ⟨_, rfl⟩
  obtain ⟨a, rfl⟩ := hv'
  refine lv_astore_n hx hb hd rfl (ma_all_has hL) hi rfl (fun L' hL' => ?_)
  subst hl
  exact k p l e R s m args below meth c H locs cells slots mc ms D aC A ad ad0 n0 L' S' hC ⟨hRm, hHR, hSX, hS, hA, hEx, ma_LR_set hL trivial hv hL', hSt, hCl⟩

theorem Go.iinc {sc : Nat × (Nat → Int32)} {cl rd : Bool} {d bc bs : Nat} {y : MD} {pc : Nat} {ls st : List AV} {h : AH} {Q : GO → AH → Prop} {i : Nat} {n : Int} {x v : Int32} {ls' : List AV} (hd : decode y.2.1 pc = .ok (.iinc i n, 3)) (hi : i < y.2.2.1) (hl0 : ls[i]? = some (vI x)) (hv : x + Int32.ofInt n = v) (hl : ls.set i (vI v) = ls') (k : Go sc cl rd d bc bs y (pc + 3) ls' st h Q) : Go sc cl rd d bc bs y pc ls st h Q := by
  intro p l e R s m args below meth c H locs cells slots mc ms D aC A ad ad0 n0 L S hC hDy
  obtain ⟨hx, hb, hml, hr, hown, hts, hlocks, hnm, hex, hK, hKa, hNc, hfl, hmH⟩ := id hC
  obtain ⟨hRm, hHR, hSX, hS, hA, hEx, hL, hSt, hCl⟩ := id hDy
  have hz : L[i]? = some (.val (.int x)) := by
    rcases hL.2.2 _ _ hl0 with q | ⟨-, z, q, rfl⟩
    · cases q
    · exact q
  obtain ⟨j, hj⟩ := List.getElem?_of_mem (ma_all_mem.mpr hz)
  refine lv_iinc hx hb hd (ma_all_has hL) hj hv hi rfl (fun L' hL' => ?_)
  subst hl
  exact k p l e R s m args below meth c H locs cells slots mc ms D aC A ad ad0 n0 L' S hC ⟨hRm, hHR, hSX, hS, hA, hEx, ma_LR_set hL trivial rfl hL', hSt, hCl⟩

theorem Go.iadd {sc : Nat × (Nat → Int32)} {cl rd : Bool} {d bc bs : Nat} {y : MD} {pc : Nat} {ls st : List AV} {h : AH} {Q : GO → AH → Prop} {x y' : Int32} (hd : decode y.2.1 pc = .ok (.iadd, 1)) (k : Go sc cl rd d bc bs y (pc + 1) ls (vI (x + y') :: st) h Q) : Go sc cl rd d bc bs y pc ls (vI y' :: vI x :: st) h Q := by
  intro p l e R s m args below meth c H locs cells slots mc ms D aC A ad ad0 n0 L S hC hDy
  obtain ⟨hx, hb, hml, hr, hown, hts, hlocks, hnm, hex, hK, hKa, hNc, hfl, hmH⟩ := id hC
  obtain ⟨hRm, hHR, hSX, hS, hA, hEx, hL, hSt, hCl⟩ := id hDy
  obtain ⟨z1, S1, rfl, rfl, z2, S2, rfl, rfl, hSt⟩ := hSt
  exact lv_iadd hx hb hd (k p l e R s m args below meth c H locs cells slots mc ms D aC A ad ad0 n0 L (.int (x + y') :: S2) hC ⟨hRm, hHR, hSX, hS, hA, hEx, hL, ⟨_, _, rfl, rfl, hSt⟩, hCl⟩)

theorem Go.isub {sc : Nat × (Nat → Int32)} {cl rd : Bool} {d bc bs : Nat} {y : MD} {pc : Nat} {ls st : List AV} {h : AH} {Q : GO → AH → Prop} {x y' : Int32} (hd : decode y.2.1 pc = .ok (.isub, 1)) (k : Go sc cl rd d bc bs y (pc + 1) ls (vI (x - y') :: st) h Q) : Go sc cl rd d bc bs y pc ls (vI y' :: vI x :: st) h Q := by
  intro p l e R s m args below meth c H locs cells slots mc ms D aC A ad ad0 n0 L S hC hDy
  obtain ⟨hx, hb, hml, hr, hown, hts, hlocks, hnm, hex, hK, hKa, hNc, hfl, hmH⟩ := id hC
  obtain ⟨hRm, hHR, hSX, hS, hA, hEx, hL, hSt, hCl⟩ := id hDy
  obtain ⟨z1, S1, rfl, rfl, z2, S2, rfl, rfl, hSt⟩ := hSt
  exact lv_isub hx hb hd (k p l e R s m args below meth c H locs cells slots mc ms D aC A ad ad0 n0 L (.int (x - y') :: S2) hC ⟨hRm, hHR, hSX, hS, hA, hEx, hL, ⟨_, _, rfl, rfl, hSt⟩, hCl⟩)

theorem Go.imul {sc : Nat × (Nat → Int32)} {cl rd : Bool} {d bc bs : Nat} {y : MD} {pc : Nat} {ls st : List AV} {h : AH} {Q : GO → AH → Prop} {x y' : Int32} (hd : decode y.2.1 pc = .ok (.imul, 1)) (k : Go sc cl rd d bc bs y (pc + 1) ls (vI (x * y') :: st) h Q) : Go sc cl rd d bc bs y pc ls (vI y' :: vI x :: st) h Q := by
  intro p l e R s m args below meth c H locs cells slots mc ms D aC A ad ad0 n0 L S hC hDy
  obtain ⟨hx, hb, hml, hr, hown, hts, hlocks, hnm, hex, hK, hKa, hNc, hfl, hmH⟩ := id hC
  obtain ⟨hRm, hHR, hSX, hS, hA, hEx, hL, hSt, hCl⟩ := id hDy
  obtain ⟨z1, S1, rfl, rfl, z2, S2, rfl, rfl, hSt⟩ := hSt
  exact lv_imul hx hb hd (k p l e R s m args below meth c H locs cells slots mc ms D aC A ad ad0 n0 L (.int (x * y') :: S2) hC ⟨hRm, hHR, hSX, hS, hA, hEx, hL, ⟨_, _, rfl, rfl, hSt⟩, hCl⟩)

theorem Go.iand {sc : Nat × (Nat → Int32)} {cl rd : Bool} {d bc bs : Nat} {y : MD} {pc : Nat} {ls st : List AV} {h : AH} {Q : GO → AH → Prop} {x y' : Int32} (hd : decode y.2.1 pc = .ok (.iand, 1)) (k : Go sc cl rd d bc bs y (pc + 1) ls (vI (x &&& y') :: st) h Q) : Go sc cl rd d bc bs y pc ls (vI y' :: vI x :: st) h Q := by
  intro p l e R s m args below meth c H locs cells slots mc ms D aC A ad ad0 n0 L S hC hDy
  obtain ⟨hx, hb, hml, hr, hown, hts, hlocks, hnm, hex, hK, hKa, hNc, hfl, hmH⟩ := id hC
  obtain ⟨hRm, hHR, hSX, hS, hA, hEx, hL, hSt, hCl⟩ := id hDy
  obtain ⟨z1, S1, rfl, rfl, z2, S2, rfl, rfl, hSt⟩ := hSt
  exact lv_iand hx hb hd (k p l e R s m args below meth c H locs cells slots mc ms D aC A ad ad0 n0 L (.int (x &&& y') :: S2) hC ⟨hRm, hHR, hSX, hS, hA, hEx, hL, ⟨_, _, rfl, rfl, hSt⟩, hCl⟩)

theorem Go.ior {sc : Nat × (Nat → Int32)} {cl rd : Bool} {d bc bs : Nat} {y : MD} {pc : Nat} {ls st : List AV} {h : AH} {Q : GO → AH → Prop} {x y' : Int32} (hd : decode y.2.1 pc = .ok (.ior, 1)) (k : Go sc cl rd d bc bs y (pc + 1) ls (vI (x ||| y') :: st) h Q) : Go sc cl rd d bc bs y pc ls (vI y' :: vI x :: st) h Q := by
  intro p l e R s m args below meth c H locs cells slots mc ms D aC A ad ad0 n0 L S hC hDy
  obtain ⟨hx, hb, hml, hr, hown, hts, hlocks, hnm, hex, hK, hKa, hNc, hfl, hmH⟩ := id hC
  obtain ⟨hRm, hHR, hSX, hS, hA, hEx, hL, hSt, hCl⟩ := id hDy
  obtain ⟨z1, S1, rfl, rfl, z2, S2, rfl, rfl, hSt⟩ := hSt
  exact lv_ior hx hb hd (k p l e R s m args below meth c H locs cells slots mc ms D aC A ad ad0 n0 L (.int (x ||| y') :: S2) hC ⟨hRm, hHR, hSX, hS, hA, hEx, hL, ⟨_, _, rfl, rfl, hSt⟩, hCl⟩)

theorem Go.ixor {sc : Nat × (Nat → Int32)} {cl rd : Bool} {d bc bs : Nat} {y : MD} {pc : Nat} {ls st : List AV} {h : AH} {Q : GO → AH → Prop} {x y' : Int32} (hd : decode y.2.1 pc = .ok (.ixor, 1)) (k : Go sc cl rd d bc bs y (pc + 1) ls (vI (x ^^^ y') :: st) h Q) : Go sc cl rd d bc bs y pc ls (vI y' :: vI x :: st) h Q := by
  intro p l e R s m args below meth c H locs cells slots mc ms D aC A ad ad0 n0 L S hC hDy
  obtain ⟨hx, hb, hml, hr, hown, hts, hlocks, hnm, hex, hK, hKa, hNc, hfl, hmH⟩ := id hC
  obtain ⟨hRm, hHR, hSX, hS, hA, hEx, hL, hSt, hCl⟩ := id hDy
  obtain ⟨z1, S1, rfl, rfl, z2, S2, rfl, rfl, hSt⟩ := hSt
  exact lv_ixor hx hb hd (k p l e R s m args below meth c H locs cells slots mc ms D aC A ad ad0 n0 L (.int (x ^^^ y') :: S2) hC ⟨hRm, hHR, hSX, hS, hA, hEx, hL, ⟨_, _, rfl, rfl, hSt⟩, hCl⟩)

theorem Go.ishl {sc : Nat × (Nat → Int32)} {cl rd : Bool} {d bc bs : Nat} {y : MD} {pc : Nat} {ls st : List AV} {h : AH} {Q : GO → AH → Prop} {x y' : Int32} (hd : decode y.2.1 pc = .ok (.ishl, 1)) (k : Go sc cl rd d bc bs y (pc + 1) ls (vI (x <<< (y' &&& 31)) :: st) h Q) : Go sc cl rd d bc bs y pc ls (vI y' :: vI x :: st) h Q := by
  intro p l e R s m args below meth c H locs cells slots mc ms D aC A ad ad0 n0 L S hC hDy
  obtain ⟨hx, hb, hml, hr, hown, hts, hlocks, hnm, hex, hK, hKa, hNc, hfl, hmH⟩ := id hC
  obtain ⟨hRm, hHR, hSX, hS, hA, hEx, hL, hSt, hCl⟩ := id hDy
  obtain ⟨z1, S1, rfl, rfl, z2, S2, rfl, rfl, hSt⟩ := hSt
  exact lv_ishl hx hb hd (k p l e R s m args below meth c H locs cells slots mc ms D aC A ad ad0 n0 L (.int (x <<< (y' &&& 31)) :: S2) hC ⟨hRm, hHR, hSX, hS, hA, hEx, hL, ⟨_, _, rfl, rfl, hSt⟩, hCl⟩)

theorem Go.i2l {sc : Nat × (Nat → Int32)} {cl rd : Bool} {d bc bs : Nat} {y : MD} {pc : Nat} {ls st : List AV} {h : AH} {Q : GO → AH → Prop} {x : Int32} (hd : decode y.2.1 pc = .ok (.i2l, 1)) (k : Go sc cl rd d bc bs y (pc + 1) ls (vL x.toInt64 :: st) h Q) : Go sc cl rd d bc bs y pc ls (vI x :: st) h Q := by
  intro p l e R s m args below meth c H locs cells slots mc ms D aC A ad ad0 n0 L S hC hDy
  obtain ⟨hx, hb, hml, hr, hown, hts, hlocks, hnm, hex, hK, hKa, hNc, hfl, hmH⟩ := id hC
  obtain ⟨hRm, hHR, hSX, hS, hA, hEx, hL, hSt, hCl⟩ := id hDy
  obtain ⟨z1, S1, rfl, rfl, hSt⟩ := hSt
  exact lv_i2l hx hb hd rfl (k p l e R s m args below meth c H locs cells slots mc ms D aC A ad ad0 n0 L (.long x.toInt64 :: S1) hC ⟨hRm, hHR, hSX, hS, hA, hEx, hL, ⟨_, _, rfl, rfl, hSt⟩, hCl⟩)

theorem Go.dup {sc : Nat × (Nat → Int32)} {cl rd : Bool} {d bc bs : Nat} {y : MD} {pc : Nat} {ls st : List AV} {h : AH} {Q : GO → AH → Prop} {v : AV} (hn : ma_nl v) (hd : decode y.2.1 pc = .ok (.dup, 1)) (k : Go sc cl rd d bc bs y (pc + 1) ls (v :: v :: st) h Q) : Go sc cl rd d bc bs y pc ls (v :: st) h Q := by
  intro p l e R s m args below meth c H locs cells slots mc ms D aC A ad ad0 n0 L S hC hDy
  obtain ⟨hx, hb, hml, hr, hown, hts, hlocks, hnm, hex, hK, hKa, hNc, hfl, hmH⟩ := id hC
  obtain ⟨hRm, hHR, hSX, hS, hA, hEx, hL, hSt, hCl⟩ := id hDy
  obtain ⟨z1, S1, rfl, hv, hSt⟩ := hSt
  exact lv_dup hx hb hd (ma_RV_cat hn hv) (k p l e R s m args below meth c H locs cells slots mc ms D aC A ad ad0 n0 L (z1 :: z1 :: S1) hC ⟨hRm, hHR, hSX, hS, hA, hEx, hL, ⟨_, _, rfl, hv, _, _, rfl, hv, hSt⟩, hCl⟩)

theorem Go.dup2 {sc : Nat × (Nat → Int32)} {cl rd : Bool} {d bc bs : Nat} {y : MD} {pc : Nat} {ls st : List AV} {h : AH} {Q : GO → AH → Prop} {v w : AV} (hn : ma_nl v) (hm : ma_nl w) (hd : decode y.2.1 pc = .ok (.dup2, 1)) (k : Go sc cl rd d bc bs y (pc + 1) ls (v :: w :: v :: w :: st) h Q) : Go sc cl rd d bc bs y pc ls (v :: w :: st) h Q := by
  intro p l e R s m args below meth c H locs cells slots mc ms D aC A ad ad0 n0 L S hC hDy
  obtain ⟨hx, hb, hml, hr, hown, hts, hlocks, hnm, hex, hK, hKa, hNc, hfl, hmH⟩ := id hC
  obtain ⟨hRm, hHR, hSX, hS, hA, hEx, hL, hSt, hCl⟩ := id hDy
  obtain ⟨z1, S1, rfl, hv, z2, S2, rfl, hw, hSt⟩ := hSt
  exact lv_dup2_11 hx hb hd (ma_RV_cat hn hv) (ma_RV_cat hm hw) (k p l e R s m args below meth c H locs cells slots mc ms D aC A ad ad0 n0 L (z1 :: z2 :: z1 :: z2 :: S2) hC ⟨hRm, hHR, hSX, hS, hA, hEx, hL, ⟨_, _, rfl, hv, _, _, rfl, hw, _, _, rfl, hv, _, _, rfl, hw, hSt⟩, hCl⟩)

theorem Go.pop {sc : Nat × (Nat → Int32)} {cl rd : Bool} {d bc bs : Nat} {y : MD} {pc : Nat} {ls st : List AV} {h : AH} {Q : GO → AH → Prop} {v : AV} (hn : ma_nl v) (hd : decode y.2.1 pc = .ok (.pop, 1)) (k : Go sc cl rd d bc bs y (pc + 1) ls st h Q) : Go sc cl rd d bc bs y pc ls (v :: st) h Q := by
  intro p l e R s m args below meth c H locs cells slots mc ms D aC A ad ad0 n0 L S hC hDy
  obtain ⟨hx, hb, hml, hr, hown, hts, hlocks, hnm, hex, hK, hKa, hNc, hfl, hmH⟩ := id hC
  obtain ⟨hRm, hHR, hSX, hS, hA, hEx, hL, hSt, hCl⟩ := id hDy
  obtain ⟨z1, S1, rfl, hv, hSt⟩ := hSt
  exact lv_pop hx hb hd (ma_RV_cat hn hv) (k p l e R s m args below meth c H locs cells slots mc ms D aC A ad ad0 n0 L S1 hC ⟨hRm, hHR, hSX, hS, hA, hEx, hL, hSt, hCl⟩)

theorem Go.if_eq {sc : Nat × (Nat → Int32)} {cl rd : Bool} {d bc bs : Nat} {y : MD} {pc : Nat} {ls st : List AV} {h : AH} {Q : GO → AH → Prop} {x : Int32} {off : Int} {tgt : Nat} (hd : decode y.2.1 pc = .ok (.ifCond .eq off, 3)) (ht : (pc : Int) + off = (tgt : Int)) (k : x = 0 → Go sc cl rd d bc bs y tgt ls st h Q) (k2 : ¬ (x = 0) → Go sc cl rd d bc bs y (pc + 3) ls st h Q) : Go sc cl rd d bc bs y pc ls (vI x :: st) h Q := by
  intro p l e R s m args below meth c H locs cells slots mc ms D aC A ad ad0 n0 L S hC hDy
  obtain ⟨hx, hb, hml, hr, hown, hts, hlocks, hnm, hex, hK, hKa, hNc, hfl, hmH⟩ := id hC
  obtain ⟨hRm, hHR, hSX, hS, hA, hEx, hL, hSt, hCl⟩ := id hDy
  obtain ⟨z1, S1, rfl, rfl, hSt⟩ := hSt
  exact lv_if_eq hx hb hd ht (fun q => k q p l e R s m args below meth c H locs cells slots mc ms D aC A ad ad0 n0 L S1 hC ⟨hRm, hHR, hSX, hS, hA, hEx, hL, hSt, hCl⟩) (fun q => k2 q p l e R s m args below meth c H locs cells slots mc ms D aC A ad ad0 n0 L S1 hC ⟨hRm, hHR, hSX, hS, hA, hEx, hL, hSt, hCl⟩)

theorem Go.icmp_eq {sc : Nat × (Nat → Int32)} {cl rd : Bool} {d bc bs : Nat} {y : MD} {pc : Nat} {ls st : List AV} {h : AH} {Q : GO → AH → Prop} {x y' : Int32} {off : Int} {tgt : Nat} (hd : decode y.2.1 pc = .ok (.if_icmp .eq off, 3)) (ht : (pc : Int) + off = (tgt : Int)) (k : x = y' → Go sc cl rd d bc bs y tgt ls st h Q) (k2 : ¬ (x = y') → Go sc cl rd d bc bs y (pc + 3) ls st h Q) : Go sc cl rd d bc bs y pc ls (vI y' :: vI x :: st) h Q := by
  intro p l e R s m args below meth c H locs cells slots mc ms D aC A ad ad0 n0 L S hC hDy
  obtain ⟨hx, hb, hml, hr, hown, hts, hlocks, hnm, hex, hK, hKa, hNc, hfl, hmH⟩ := id hC
  obtain ⟨hRm, hHR, hSX, hS, hA, hEx, hL, hSt, hCl⟩ := id hDy
  obtain ⟨z1, S1, rfl, rfl, z2, S2, rfl, rfl, hSt⟩ := hSt
  exact lv_icmp_eq hx hb hd ht (fun q => k q p l e R s m args below meth c H locs cells slots mc ms D aC A ad ad0 n0 L S2 hC ⟨hRm, hHR, hSX, hS, hA, hEx, hL, hSt, hCl⟩) (fun q => k2 q p l e R s m args below meth c H locs cells slots mc ms D aC A ad ad0 n0 L S2 hC ⟨hRm, hHR, hSX, hS, hA, hEx, hL, hSt, hCl⟩)

theorem Go.if_ne {sc : Nat × (Nat → Int32)} {cl rd : Bool} {d bc bs : Nat} {y : MD} {pc : Nat} {ls st : List AV} {h : AH} {Q : GO → AH → Prop} {x : Int32} {off : Int} {tgt : Nat} (hd : decode y.2.1 pc = .ok (.ifCond .ne off, 3)) (ht : (pc : Int) + off = (tgt : Int)) (k : ¬ x = 0 → Go sc cl rd d bc bs y tgt ls st h Q) (k2 : x = 0 → Go sc cl rd d bc bs y (pc + 3) ls st h Q) : Go sc cl rd d bc bs y pc ls (vI x :: st) h Q := by
  intro p l e R s m args below meth c H locs cells slots mc ms D aC A ad ad0 n0 L S hC hDy
  obtain ⟨hx, hb, hml, hr, hown, hts, hlocks, hnm, hex, hK, hKa, hNc, hfl, hmH⟩ := id hC
  obtain ⟨hRm, hHR, hSX, hS, hA, hEx, hL, hSt, hCl⟩ := id hDy
  obtain ⟨z1, S1, rfl, rfl, hSt⟩ := hSt
  exact lv_if_ne hx hb hd ht (fun q => k q p l e R s m args below meth c H locs cells slots mc ms D aC A ad ad0 n0 L S1 hC ⟨hRm, hHR, hSX, hS, hA, hEx, hL, hSt, hCl⟩) (fun q => k2 q p l e R s m args below meth c H locs cells slots mc ms D aC A ad ad0 n0 L S1 hC ⟨hRm, hHR, hSX, hS, hA, hEx, hL, hSt, hCl⟩)

theorem Go.icmp_ne {sc : Nat × (Nat → Int32)} {cl rd : Bool} {d bc bs : Nat} {y : MD} {pc : Nat} {ls st : List AV} {h : AH} {Q : GO → AH → Prop} {x y' : Int32} {off : Int} {tgt : Nat} (hd : decode y.2.1 pc = .ok (.if_icmp .ne off, 3)) (ht : (pc : Int) + off = (tgt : Int)) (k : ¬ x = y' → Go sc cl rd d bc bs y tgt ls st h Q) (k2 : x = y' → Go sc cl rd d bc bs y (pc + 3) ls st h Q) : Go sc cl rd d bc bs y pc ls (vI y' :: vI x :: st) h Q := by
  intro p l e R s m args below meth c H locs cells slots mc ms D aC A ad ad0 n0 L S hC hDy
  obtain ⟨hx, hb, hml, hr, hown, hts, hlocks, hnm, hex, hK, hKa, hNc, hfl, hmH⟩ := id hC
  obtain ⟨hRm, hHR, hSX, hS, hA, hEx, hL, hSt, hCl⟩ := id hDy
  obtain ⟨z1, S1, rfl, rfl, z2, S2, rfl, rfl, hSt⟩ := hSt
  exact lv_icmp_ne hx hb hd ht (fun q => k q p l e R s m args below meth c H locs cells slots mc ms D aC A ad ad0 n0 L S2 hC ⟨hRm, hHR, hSX, hS, hA, hEx, hL, hSt, hCl⟩) (fun q => k2 q p l e R s m args below meth c H locs cells slots mc ms D aC A ad ad0 n0 L S2 hC ⟨hRm, hHR, hSX, hS, hA, hEx, hL, hSt, hCl⟩)

theorem Go.if_lt {sc : Nat × (Nat → Int32)} {cl rd : Bool} {d bc bs : Nat} {y : MD} {pc : Nat} {ls st : List AV} {h : AH} {Q : GO → AH → Prop} {x : Int32} {off : Int} {tgt : Nat} (hd : decode y.2.1 pc = .ok (.ifCond .lt off, 3)) (ht : (pc : Int) + off = (tgt : Int)) (k : x < 0 → Go sc cl rd d bc bs y tgt ls st h Q) (k2 : ¬ (x < 0) → Go sc cl rd d bc bs y (pc + 3) ls st h Q) : Go sc cl rd d bc bs y pc ls (vI x :: st) h Q := by
  intro p l e R s m args below meth c H locs cells slots mc ms D aC A ad ad0 n0 L S hC hDy
  obtain ⟨hx, hb, hml, hr, hown, hts, hlocks, hnm, hex, hK, hKa, hNc, hfl, hmH⟩ := id hC
  obtain ⟨hRm, hHR, hSX, hS, hA, hEx, hL, hSt, hCl⟩ := id hDy
  obtain ⟨z1, S1, rfl, rfl, hSt⟩ := hSt
  exact lv_if_lt hx hb hd ht (fun q => k q p l e R s m args below meth c H locs cells slots mc ms D aC A ad ad0 n0 L S1 hC ⟨hRm, hHR, hSX, hS, hA, hEx, hL, hSt, hCl⟩) (fun q => k2 q p l e R s m args below meth c H locs cells slots mc ms D aC A ad ad0 n0 L S1 hC ⟨hRm, hHR, hSX, hS, hA, hEx, hL, hSt, hCl⟩)

theorem Go.icmp_lt {sc : Nat × (Nat → Int32)} {cl rd : Bool} {d bc bs : Nat} {y : MD} {pc : Nat} {ls st : List AV} {h : AH} {Q : GO → AH → Prop} {x y' : Int32} {off : Int} {tgt : Nat} (hd : decode y.2.1 pc = .ok (.if_icmp .lt off, 3)) (ht : (pc : Int) + off = (tgt : Int)) (k : x < y' → Go sc cl rd d bc bs y tgt ls st h Q) (k2 : ¬ (x < y') → Go sc cl rd d bc bs y (pc + 3) ls st h Q) : Go sc cl rd d bc bs y pc ls (vI y' :: vI x :: st) h Q := by
  intro p l e R s m args below meth c H locs cells slots mc ms D aC A ad ad0 n0 L S hC hDy
  obtain ⟨hx, hb, hml, hr, hown, hts, hlocks, hnm, hex, hK, hKa, hNc, hfl, hmH⟩ := id hC
  obtain ⟨hRm, hHR, hSX, hS, hA, hEx, hL, hSt, hCl⟩ := id hDy
  obtain ⟨z1, S1, rfl, rfl, z2, S2, rfl, rfl, hSt⟩ := hSt
  exact lv_icmp_lt hx hb hd ht (fun q => k q p l e R s m args below meth c H locs cells slots mc ms D aC A ad ad0 n0 L S2 hC ⟨hRm, hHR, hSX, hS, hA, hEx, hL, hSt, hCl⟩) (fun q => k2 q p l e R s m args below meth c H locs cells slots mc ms D aC A ad ad0 n0 L S2 hC ⟨hRm, hHR, hSX, hS, hA, hEx, hL, hSt, hCl⟩)

theorem Go.if_ge {sc : Nat × (Nat → Int32)} {cl rd : Bool} {d bc bs : Nat} {y : MD} {pc : Nat} {ls st : List AV} {h : AH} {Q : GO → AH → Prop} {x : Int32} {off : Int} {tgt : Nat} (hd : decode y.2.1 pc = .ok (.ifCond .ge off, 3)) (ht : (pc : Int) + off = (tgt : Int)) (k : 0 ≤ x → Go sc cl rd d bc bs y tgt ls st h Q) (k2 : ¬ (0 ≤ x) → Go sc cl rd d bc bs y (pc + 3) ls st h Q) : Go sc cl rd d bc bs y pc ls (vI x :: st) h Q := by
  intro p l e R s m args below meth c H locs cells slots mc ms D aC A ad ad0 n0 L S hC hDy
  obtain ⟨hx, hb, hml, hr, hown, hts, hlocks, hnm, hex, hK, hKa, hNc, hfl, hmH⟩ := id hC
  obtain ⟨hRm, hHR, hSX, hS, hA, hEx, hL, hSt, hCl⟩ := id hDy
  obtain ⟨z1, S1, rfl, rfl, hSt⟩ := hSt
  exact lv_if_ge hx hb hd ht (fun q => k q p l e R s m args below meth c H locs cells slots mc ms D aC A ad ad0 n0 L S1 hC ⟨hRm, hHR, hSX, hS, hA, hEx, hL, hSt, hCl⟩) (fun q => k2 q p l e R s m args below meth c H locs cells slots mc ms D aC A ad ad0 n0 L S1 hC ⟨hRm, hHR, hSX, hS, hA, hEx, hL, hSt, hCl⟩)

theorem Go.icmp_ge {sc : Nat × (Nat → Int32)} {cl rd : Bool} {d bc bs : Nat} {y : MD} {pc : Nat} {ls st : List AV} {h : AH} {Q : GO → AH → Prop} {x y' : Int32} {off : Int} {tgt : Nat} (hd : decode y.2.1 pc = .ok (.if_icmp .ge off, 3)) (ht : (pc : Int) + off = (tgt : Int)) (k : y' ≤ x → Go sc cl rd d bc bs y tgt ls st h Q) (k2 : ¬ (y' ≤ x) → Go sc cl rd d bc bs y (pc + 3) ls st h Q) : Go sc cl rd d bc bs y pc ls (vI y' :: vI x :: st) h Q := by
  intro p l e R s m args below meth c H locs cells slots mc ms D aC A ad ad0 n0 L S hC hDy
  obtain ⟨hx, hb, hml, hr, hown, hts, hlocks, hnm, hex, hK, hKa, hNc, hfl, hmH⟩ := id hC
  obtain ⟨hRm, hHR, hSX, hS, hA, hEx, hL, hSt, hCl⟩ := id hDy
  obtain ⟨z1, S1, rfl, rfl, z2, S2, rfl, rfl, hSt⟩ := hSt
  exact lv_icmp_ge hx hb hd ht (fun q => k q p l e R s m args below meth c H locs cells slots mc ms D aC A ad ad0 n0 L S2 hC ⟨hRm, hHR, hSX, hS, hA, hEx, hL, hSt, hCl⟩) (fun q => k2 q p l e R s m args below meth c H locs cells slots mc ms D aC A ad ad0 n0 L S2 hC ⟨hRm, hHR, hSX, hS, hA, hEx, hL, hSt, hCl⟩)

theorem Go.if_gt {sc : Nat × (Nat → Int32)} {cl rd : Bool} {d bc bs : Nat} {y : MD} {pc : Nat} {ls st : List AV} {h : AH} {Q : GO → AH → Prop} {x : Int32} {off : Int} {tgt : Nat} (hd : decode y.2.1 pc = .ok (.ifCond .gt off, 3)) (ht : (pc : Int) + off = (tgt : Int)) (k : 0 < x → Go sc cl rd d bc bs y tgt ls st h Q) (k2 : ¬ (0 < x) → Go sc cl rd d bc bs y (pc + 3) ls st h Q) : Go sc cl rd d bc bs y pc ls (vI x :: st) h Q := by
  intro p l e R s m args below meth c H locs cells slots mc ms D aC A ad ad0 n0 L S hC hDy
  obtain ⟨hx, hb, hml, hr, hown, hts, hlocks, hnm, hex, hK, hKa, hNc, hfl, hmH⟩ := id hC
  obtain ⟨hRm, hHR, hSX, hS, hA, hEx, hL, hSt, hCl⟩ := id hDy
  obtain ⟨z1, S1, rfl, rfl, hSt⟩ := hSt
  exact lv_if_gt hx hb hd ht (fun q => k q p l e R s m args below meth c H locs cells slots mc ms D aC A ad ad0 n0 L S1 hC ⟨hRm, hHR, hSX, hS, hA, hEx, hL, hSt, hCl⟩) (fun q => k2 q p l e R s m args below meth c H locs cells slots mc ms D aC A ad ad0 n0 L S1 hC ⟨hRm, hHR, hSX, hS, hA, hEx, hL, hSt, hCl⟩)

theorem Go.icmp_gt {sc : Nat × (Nat → Int32)} {cl rd : Bool} {d bc bs : Nat} {y : MD} {pc : Nat} {ls st : List AV} {h : AH} {Q : GO → AH → Prop} {x y' : Int32} {off : Int} {tgt : Nat} (hd : decode y.2.1 pc = .ok (.if_icmp .gt off, 3)) (ht : (pc : Int) + off = (tgt : Int)) (k : y' < x → Go sc cl rd d bc bs y tgt ls st h Q) (k2 : ¬ (y' < x) → Go sc cl rd d bc bs y (pc + 3) ls st h Q) : Go sc cl rd d bc bs y pc ls (vI y' :: vI x :: st) h Q := by
  intro p l e R s m args below meth c H locs cells slots mc ms D aC A ad ad0 n0 L S hC hDy
  obtain ⟨hx, hb, hml, hr, hown, hts, hlocks, hnm, hex, hK, hKa, hNc, hfl, hmH⟩ := id hC
  obtain ⟨hRm, hHR, hSX, hS, hA, hEx, hL, hSt, hCl⟩ := id hDy
  obtain ⟨z1, S1, rfl, rfl, z2, S2, rfl, rfl, hSt⟩ := hSt
  exact lv_icmp_gt hx hb hd ht (fun q => k q p l e R s m args below meth c H locs cells slots mc ms D aC A ad ad0 n0 L S2 hC ⟨hRm, hHR, hSX, hS, hA, hEx, hL, hSt, hCl⟩) (fun q => k2 q p l e R s m args below meth c H locs cells slots mc ms D aC A ad ad0 n0 L S2 hC ⟨hRm, hHR, hSX, hS, hA, hEx, hL, hSt, hCl⟩)

theorem Go.if_le {sc : Nat × (Nat → Int32)} {cl rd : Bool} {d bc bs : Nat} {y : MD} {pc : Nat} {ls st : List AV} {h : AH} {Q : GO → AH → Prop} {x : Int32} {off : Int} {tgt : Nat} (hd : decode y.2.1 pc = .ok (.ifCond .le off, 3)) (ht : (pc : Int) + off = (tgt : Int)) (k : x ≤ 0 → Go sc cl rd d bc bs y tgt ls st h Q) (k2 : ¬ (x ≤ 0) → Go sc cl rd d bc bs y (pc + 3) ls st h Q) : Go sc cl rd d bc bs y pc ls (vI x :: st) h Q := by
  intro p l e R s m args below meth c H locs cells slots mc ms D aC A ad ad0 n0 L S hC hDy
  obtain ⟨hx, hb, hml, hr, hown, hts, hlocks, hnm, hex, hK, hKa, hNc, hfl, hmH⟩ := id hC
  obtain ⟨hRm, hHR, hSX, hS, hA, hEx, hL, hSt, hCl⟩ := id hDy
  obtain ⟨z1, S1, rfl, rfl, hSt⟩ := hSt
  exact lv_if_le hx hb hd ht (fun q => k q p l e R s m args below meth c H locs cells slots mc ms D aC A ad ad0 n0 L S1 hC ⟨hRm, hHR, hSX, hS, hA, hEx, hL, hSt, hCl⟩) (fun q => k2 q p l e R s m args below meth c H locs cells slots mc ms D aC A ad ad0 n0 L S1 hC ⟨hRm, hHR, hSX, hS, hA, hEx, hL, hSt, hCl⟩)

theorem Go.icmp_le {sc : Nat × (Nat → Int32)} {cl rd : Bool} {d bc bs : Nat} {y : MD} {pc : Nat} {ls st : List AV} {h : AH} {Q : GO → AH → Prop} {x y' : Int32} {off : Int} {tgt : Nat} (hd : decode y.2.1 pc = .ok (.if_icmp .le off, 3)) (ht : (pc : Int) + off = (tgt : Int)) (k : x ≤ y' → Go sc cl rd d bc bs y tgt ls st h Q) (k2 : ¬ (x ≤ y') → Go sc cl rd d bc bs y (pc + 3) ls st h Q) : Go sc cl rd d bc bs y pc ls (vI y' :: vI x :: st) h Q := by
  intro p l e R s m args below meth c H locs cells slots mc ms D aC A ad ad0 n0 L S hC hDy
  obtain ⟨hx, hb, hml, hr, hown, hts, hlocks, hnm, hex, hK, hKa, hNc, hfl, hmH⟩ := id hC
  obtain ⟨hRm, hHR, hSX, hS, hA, hEx, hL, hSt, hCl⟩ := id hDy
  obtain ⟨z1, S1, rfl, rfl, z2, S2, rfl, rfl, hSt⟩ := hSt
  exact lv_icmp_le hx hb hd ht (fun q => k q p l e R s m args below meth c H locs cells slots mc ms D aC A ad ad0 n0 L S2 hC ⟨hRm, hHR, hSX, hS, hA, hEx, hL, hSt, hCl⟩) (fun q => k2 q p l e R s m args below meth c H locs cells slots mc ms D aC A ad ad0 n0 L S2 hC ⟨hRm, hHR, hSX, hS, hA, hEx, hL, hSt, hCl⟩)

theorem Go.goto {sc : Nat × (Nat → Int32)} {cl rd : Bool} {d bc bs : Nat} {y : MD} {pc : Nat} {ls st : List AV} {h : AH} {Q : GO → AH → Prop} {off : Int} {tgt : Nat} (hd : decode y.2.1 pc = .ok (.goto off, 3)) (ht : (pc : Int) + off = (tgt : Int)) (k : Go sc cl rd d bc bs y tgt ls st h Q) : Go sc cl rd d bc bs y pc ls st h Q := by
  intro p l e R s m args below meth c H locs cells slots mc ms D aC A ad ad0 n0 L S hC hDy
  obtain ⟨hx, hb, hml, hr, hown, hts, hlocks, hnm, hex, hK, hKa, hNc, hfl, hmH⟩ := id hC
  obtain ⟨hRm, hHR, hSX, hS, hA, hEx, hL, hSt, hCl⟩ := id hDy
  exact lv_goto hx hb hd ht (k p l e R s m args below meth c H locs cells slots mc ms D aC A ad ad0 n0 L S hC ⟨hRm, hHR, hSX, hS, hA, hEx, hL, hSt, hCl⟩)

theorem Go.tabOut {sc : Nat × (Nat → Int32)} {cl rd : Bool} {d bc bs : Nat} {y : MD} {pc : Nat} {ls st : List AV} {h : AH} {Q : GO → AH → Prop} {dflt lo hi : Int} {offs : Array Int} {len : Nat} {x : Int32} {tgt : Nat} (hd : decode y.2.1 pc = .ok (.tableswitch dflt lo hi offs, len)) (hh : x.toInt < lo ∨ hi < x.toInt) (ht : (pc : Int) + dflt = (tgt : Int)) (k : Go sc cl rd d bc bs y tgt ls st h Q) : Go sc cl rd d bc bs y pc ls (vI x :: st) h Q := by
  intro p l e R s m args below meth c H locs cells slots mc ms D aC A ad ad0 n0 L S hC hDy
  obtain ⟨hx, hb, hml, hr, hown, hts, hlocks, hnm, hex, hK, hKa, hNc, hfl, hmH⟩ := id hC
  obtain ⟨hRm, hHR, hSX, hS, hA, hEx, hL, hSt, hCl⟩ := id hDy
  obtain ⟨z1, S1, rfl, rfl, hSt⟩ := hSt
  exact lv_tableOut hx hb hd hh ht (k p l e R s m args below meth c H locs cells slots mc ms D aC A ad ad0 n0 L S1 hC ⟨hRm, hHR, hSX, hS, hA, hEx, hL, hSt, hCl⟩)

theorem Go.tabIn {sc : Nat × (Nat → Int32)} {cl rd : Bool} {d bc bs : Nat} {y : MD} {pc : Nat} {ls st : List AV} {h : AH} {Q : GO → AH → Prop} {dflt lo hi : Int} {offs : Array Int} {len : Nat} {x : Int32} {off : Int} {tgt : Nat} (hd : decode y.2.1 pc = .ok (.tableswitch dflt lo hi offs, len)) (h1 : ¬ x.toInt < lo) (h2 : ¬ hi < x.toInt) (ho : offs[(x.toInt - lo).toNat]? = some off) (ht : (pc : Int) + off = (tgt : Int)) (k : Go sc cl rd d bc bs y tgt ls st h Q) : Go sc cl rd d bc bs y pc ls (vI x :: st) h Q := by
  intro p l e R s m args below meth c H locs cells slots mc ms D aC A ad ad0 n0 L S hC hDy
  obtain ⟨hx, hb, hml, hr, hown, hts, hlocks, hnm, hex, hK, hKa, hNc, hfl, hmH⟩ := id hC
  obtain ⟨hRm, hHR, hSX, hS, hA, hEx, hL, hSt, hCl⟩ := id hDy
  obtain ⟨z1, S1, rfl, rfl, hSt⟩ := hSt
  exact lv_tableIn hx hb hd h1 h2 ho ht (k p l e R s m args below meth c H locs cells slots mc ms D aC A ad ad0 n0 L S1 hC ⟨hRm, hHR, hSX, hS, hA, hEx, hL, hSt, hCl⟩)
end
section
theorem ma_ref {ad : Nat → Nat → Nat} {n : Nat → Nat} {k i : Nat} {x : Value} (hk : k < 90 ∨ 100 ≤ k) (hv : ma_RV ad n (vO k i) x) : i < n k ∧ x = .ref (ad k i) := by
  rcases hv with ⟨h1, -⟩ | ⟨h1, -⟩ | h1
  · dsimp only at h1; omega
  · dsimp only at h1; omega
  · exact h1
theorem ma_pos {n : Nat → Nat} {Ls : List (Nat × Nat)} {k i : Nat} (hm : ∀ x, x ∈ Ls ↔ x.2 < n x.1) (hi : i < n k) : ∃ q0 : Nat, Ls[q0]? = some (k, i) := List.getElem?_of_mem ((hm (k, i)).mpr hi)
theorem ma_ws_at {aC : Nat → ClassId} {ad : Nat → Nat → Nat} {h : AH} {Ls : List (Nat × Nat)} {k i q0 : Nat} (hq : Ls[q0]? = some (k, i)) : (ma_ws aC ad h Ls)[q0]? = some (ad k i, ma_E aC ad h (k, i)) := by
  rw [ma_ws, List.getElem?_map, hq]; rfl
theorem ma_E_obj {aC : Nat → ClassId} {ad : Nat → Nat → Nat} {h : AH} {k i : Nat} (hk : k < 90) : ma_E aC ad h (k, i) = .inr (k, ma_fs ad h k i) := by simp [ma_E, hk]
theorem ma_E_arr {aC : Nat → ClassId} {ad : Nat → Nat → Nat} {h : AH} {k i : Nat} (hk : 100 ≤ k) : ma_E aC ad h (k, i) = .inl (aC k, ma_ar ad h k i) := by
  have : ¬ k < 90 := by omega
  simp [ma_E, this]
theorem ma_ar_i {ad : Nat → Nat → Nat} {h : AH} {k i : Nat} (h1 : k ≠ 101) (h2 : k < 110) : ma_ar ad h k i = (h.2.2.2.1 k i, .inl (h.1 k i)) := by simp [ma_ar, h1, h2]
theorem ma_ar_l {ad : Nat → Nat → Nat} {h : AH} {i : Nat} : ma_ar ad h 101 i = (h.2.2.2.1 101 i, .inr (.inl (h.2.2.1 101 i))) := by simp [ma_ar]
theorem ma_ar_q {ad : Nat → Nat → Nat} {h : AH} {k i : Nat} (h1 : 110 ≤ k) : ma_ar ad h k i = (h.2.2.2.1 k i, .inr (.inr (.inr (.inr (fun j => (h.2.1 k i j).map (fun x => ad x.1 x.2)))))) := by
  have n1 : ¬ k = 101 := by omega
  have n2 : ¬ k < 110 := by omega
  simp [ma_ar, n1, n2]
theorem ma_fs_int {ad : Nat → Nat → Nat} {h : AH} {k i f : Nat} (hf : f < ma_nf k) (hk : ma_fk k f = false) : (ma_fs ad h k i)[f]? = some (.int (h.1 k i f)) := by
  simp [ma_fs, List.getElem?_map, List.getElem?_range hf, hk]
theorem ma_fs_ref {ad : Nat → Nat → Nat} {h : AH} {k i f : Nat} (hf : f < ma_nf k) (hk : ma_fk k f = true) : (ma_fs ad h k i)[f]? = some (ma_rf ad (h.2.1 k i f)) := by
  simp [ma_fs, List.getElem?_map, List.getElem?_range hf, hk]
theorem ma_up_row {α : Type} {f : Nat → Nat → Nat → α} {k i j : Nat} {v : α} {x : Nat × Nat} (hx : x ≠ (k, i)) : ma_up f k i j v x.1 x.2 = f x.1 x.2 := by
  funext q
  unfold ma_up
  rw [if_neg]
  rintro ⟨h1, h2, -⟩
  exact hx (Prod.ext h1 h2)
theorem ma_ws_set {aC : Nat → ClassId} {ad : Nat → Nat → Nat} {h h' : AH} {Ls : List (Nat × Nat)} {k i q0 : Nat} {e : va_E} (hnd : Ls.Nodup) (hq : Ls[q0]? = some (k, i)) (hE : ma_E aC ad h' (k, i) = e) (hO : ∀ x, x ≠ (k, i) → ma_E aC ad h' x = ma_E aC ad h x) : (ma_ws aC ad h Ls).set q0 (ad k i, e) = ma_ws aC ad h' Ls := by
  apply List.ext_getElem?
  intro j
  by_cases hj : j = q0
  · subst hj
    have hlt : j < (ma_ws aC ad h Ls).length := by
      have := (List.getElem?_eq_some_iff.mp hq).1
      simpa [ma_ws] using this
    rw [List.getElem?_set_self hlt, ma_ws_at hq, hE]
  · rw [List.getElem?_set_ne (Ne.symm hj)]
    unfold ma_ws
    rw [List.getElem?_map, List.getElem?_map]
    cases hx : Ls[j]? with
    | none => rfl
    | some x =>
      have hne : x ≠ (k, i) := by
        rintro rfl
        obtain ⟨a1, a2⟩ := List.getElem?_eq_some_iff.mp hx
        obtain ⟨b1, b2⟩ := List.getElem?_eq_some_iff.mp hq
        have hpw := List.pairwise_iff_getElem.mp hnd
        rcases Nat.lt_trichotomy j q0 with h1 | h1 | h1
        · exact hpw j q0 a1 b1 h1 (a2.trans b2.symm)
        · exact hj h1
        · exact hpw q0 j b1 a1 h1 (b2.trans a2.symm)
      simp [hO x hne]
theorem ma_E_upI {aC : Nat → ClassId} {ad : Nat → Nat → Nat} {h : AH} {k i j : Nat} {v : Int32} : ∀ x, x ≠ (k, i) → ma_E aC ad (ma_up h.1 k i j v, h.2) x = ma_E aC ad h x := by
  intro x hx
  have e1 : ma_up h.1 k i j v x.1 x.2 = h.1 x.1 x.2 := ma_up_row hx
  simp only [ma_E, ma_fs, ma_ar, e1]
theorem ma_E_upR {aC : Nat → ClassId} {ad : Nat → Nat → Nat} {h : AH} {k i j : Nat} {v : Option (Nat × Nat)} : ∀ x, x ≠ (k, i) → ma_E aC ad (h.1, ma_up h.2.1 k i j v, h.2.2) x = ma_E aC ad h x := by
  intro x hx
  have e1 : ma_up h.2.1 k i j v x.1 x.2 = h.2.1 x.1 x.2 := ma_up_row hx
  simp only [ma_E, ma_fs, ma_ar, e1]
theorem ma_E_upL {aC : Nat → ClassId} {ad : Nat → Nat → Nat} {h : AH} {k i j : Nat} {v : Int64} : ∀ x, x ≠ (k, i) → ma_E aC ad (h.1, h.2.1, ma_up h.2.2.1 k i j v, h.2.2.2) x = ma_E aC ad h x := by
  intro x hx
  have e1 : ma_up h.2.2.1 k i j v x.1 x.2 = h.2.2.1 x.1 x.2 := ma_up_row hx
  simp only [ma_E, ma_fs, ma_ar, e1]
theorem ma_fs_setI {ad : Nat → Nat → Nat} {h : AH} {k i f : Nat} {v : Int32} (hf : f < ma_nf k) (hk : ma_fk k f = false) : ma_fs ad (ma_up h.1 k i f v, h.2) k i = (ma_fs ad h k i).set f (.int v) := by
  apply List.ext_getElem?
  intro j
  by_cases hj : j = f
  · subst hj
    rw [ma_fs_int hf hk, List.getElem?_set_self (by simpa [ma_fs] using hf)]
    simp [ma_up]
  · rw [List.getElem?_set_ne (Ne.symm hj)]
    unfold ma_fs
    rw [List.getElem?_map, List.getElem?_map]
    have e1 : ma_up h.1 k i f v k i j = h.1 k i j := by simp [ma_up, hj]
    cases hx : (List.range (ma_nf k))[j]? with
    | none => rfl
    | some z =>
      have hz : z = j := by
        obtain ⟨a1, a2⟩ := List.getElem?_eq_some_iff.mp hx
        simpa using a2.symm
      subst hz
      simp [e1]
theorem ma_fs_setR {ad : Nat → Nat → Nat} {h : AH} {k i f : Nat} {v : Option (Nat × Nat)} (hf : f < ma_nf k) (hk : ma_fk k f = true) : ma_fs ad (h.1, ma_up h.2.1 k i f v, h.2.2) k i = (ma_fs ad h k i).set f (ma_rf ad v) := by
  apply List.ext_getElem?
  intro j
  by_cases hj : j = f
  · subst hj
    rw [ma_fs_ref hf hk, List.getElem?_set_self (by simpa [ma_fs] using hf)]
    simp [ma_up]
  · rw [List.getElem?_set_ne (Ne.symm hj)]
    unfold ma_fs
    rw [List.getElem?_map, List.getElem?_map]
    have e1 : ma_up h.2.1 k i f v k i j = h.2.1 k i j := by simp [ma_up, hj]
    cases hx : (List.range (ma_nf k))[j]? with
    | none => rfl
    | some z =>
      have hz : z = j := by
        obtain ⟨a1, a2⟩ := List.getElem?_eq_some_iff.mp hx
        simpa using a2.symm
      subst hz
      simp [e1]
theorem ma_fs_len {ad : Nat → Nat → Nat} {h : AH} {k i : Nat} : (ma_fs ad h k i).length = ma_nf k := by simp [ma_fs]
theorem ma_cls_upI {h : AH} {k i j : Nat} {v : Int32} (hz : ∀ a b q, ma_n h a ≤ b → h.1 a b q = 0 ∧ h.2.1 a b q = none ∧ h.2.2.1 a b q = 0) (hi : i < ma_n h k) : ∀ a b q, ma_n h a ≤ b → ma_up h.1 k i j v a b q = 0 ∧ h.2.1 a b q = none ∧ h.2.2.1 a b q = 0 := by
  intro a b q hb
  refine ⟨?_, (hz a b q hb).2⟩
  unfold ma_up
  rw [if_neg]
  · exact (hz a b q hb).1
  · rintro ⟨rfl, rfl, -⟩
    omega
theorem ma_cls_upL {h : AH} {k i j : Nat} {v : Int64} (hz : ∀ a b q, ma_n h a ≤ b → h.1 a b q = 0 ∧ h.2.1 a b q = none ∧ h.2.2.1 a b q = 0) (hi : i < ma_n h k) : ∀ a b q, ma_n h a ≤ b → h.1 a b q = 0 ∧ h.2.1 a b q = none ∧ ma_up h.2.2.1 k i j v a b q = 0 := by
  intro a b q hb
  refine ⟨(hz a b q hb).1, (hz a b q hb).2.1, ?_⟩
  unfold ma_up
  rw [if_neg]
  · exact (hz a b q hb).2.2
  · rintro ⟨rfl, rfl, -⟩
    omega
theorem ma_cls_upR {h : AH} {k i j c2 i2 : Nat} (hz : ma_cls h) (hi : i < ma_n h k) (hi2 : i2 < ma_n h c2) : ma_cls (h.1, ma_up h.2.1 k i j (some (c2, i2)), h.2.2) := by
  refine ⟨fun a b q r hb hr => ?_, fun a b q hb => ⟨(hz.2 a b q hb).1, ?_, (hz.2 a b q hb).2.2⟩⟩
  · dsimp only [ma_up] at hr
    split at hr
    · cases hr; exact hi2
    · exact hz.1 a b q r hb hr
  · show ma_up h.2.1 k i j (some (c2, i2)) a b q = none
    unfold ma_up
    rw [if_neg]
    · exact (hz.2 a b q hb).2.1
    · rintro ⟨rfl, rfl, -⟩
      have hb' : ma_n h a ≤ b := hb
      omega
/-- the tables' words of a field: it is read or written in the class own by the pool's place idx -/
def ma_FL (own : String) (k f idx : Nat) : Prop := ∃ (C : String) (T : u_T), maCl[k]? = some (C, T, ma_nf k) ∧ f < ma_nf k ∧ (∀ w ∈ u_ws C T (ma_nf k), w ∈ maT) ∧ Cond.fieldLink own idx (T f).1 (T f).2.1 (T f).2.2.1 ∈ maT ∧ (∀ j, j < ma_nf k → parseFieldDescriptor (T j).2.2.1 = some (ma_ft k j)) ∧ (∀ a, a < ma_nf k → ∀ b, b < ma_nf k → a ≠ b → (T a).2.1 ≠ (T b).2.1)
def ma_FW (y : MD) (k f idx : Nat) : Prop := ∃ (C : String) (T : u_T), maCl[k]? = some (C, T, ma_nf k) ∧ f < ma_nf k ∧ (∀ w ∈ u_ws C T (ma_nf k), w ∈ maT) ∧ Cond.fieldLink y.1.cls idx (T f).1 (T f).2.1 (T f).2.2.1 ∈ maT ∧ (∀ j, j < ma_nf k → parseFieldDescriptor (T j).2.2.1 = some (ma_ft k j)) ∧ (∀ a, a < ma_nf k → ∀ b, b < ma_nf k → a ≠ b → (T a).2.1 ≠ (T b).2.1) ∧ ((T f).2.2.2 = false ∨ ((T f).2.2.2 = true ∧ y.1.name = "<init>" ∧ (T f).1 = y.1.cls))

theorem Go.getI {sc : Nat × (Nat → Int32)} {cl rd : Bool} {d bc bs : Nat} {y : MD} {pc : Nat} {ls st : List AV} {h : AH} {Q : GO → AH → Prop} {k i f idx : Nat} (hd : decode y.2.1 pc = .ok (.getfield idx, 3)) (hf : ma_FL y.1.cls k f idx) (hk : k < 90) (hfk : ma_fk k f = false) (kk : Go sc cl rd d bc bs y (pc + 3) ls (vI (h.1 k i f) :: st) h Q) : Go sc cl rd d bc bs y pc ls (vO k i :: st) h Q := by
  intro p l e R s m args below meth c H locs cells slots mc ms D aC A ad ad0 n0 L S hC hDy
  obtain ⟨hx, hb, hml, hr, hown, hts, hlocks, hnm, hex, hK, hKa, hNc, hfl, hmH⟩ := id hC
  obtain ⟨hRm, hHR, hSX, hS, hA, hEx, hL, hSt, hCl⟩ := id hDy
  obtain ⟨z1, S1, rfl, hv, hSt⟩ := hSt
  obtain ⟨hi, rfl⟩ := ma_ref (Or.inl hk) hv
  obtain ⟨C, T, hc, hfn, hin, hlk, -, -⟩ := hf
  obtain ⟨Ls, hm, hnd, hP, hD, h90, hcl⟩ := id hHR
  obtain ⟨q0, hq0⟩ := ma_pos hm hi
  have he := ma_ws_at (aC := aC) (ad := ad) (h := h) hq0
  rw [ma_E_obj hk] at he
  exact va_get (D := D) (C := C) (T := T) hx hb hts hin hown hK hP q0 he hc f hfn (hts _ hlk) (fun _ h9 => h9) (ma_fs_int hfn hfk) hd (kk p l e R s m args below meth c H locs cells slots mc ms D aC A ad ad0 n0 L (.int (h.1 k i f) :: S1) hC ⟨hRm, hHR, hSX, hS, hA, hEx, hL, ⟨_, _, rfl, rfl, hSt⟩, hCl⟩)

theorem Go.getR {sc : Nat × (Nat → Int32)} {cl rd : Bool} {d bc bs : Nat} {y : MD} {pc : Nat} {ls st : List AV} {h : AH} {Q : GO → AH → Prop} {k i f idx : Nat} {r : Nat × Nat} (hd : decode y.2.1 pc = .ok (.getfield idx, 3)) (hf : ma_FL y.1.cls k f idx) (hk : k < 90) (hfk : ma_fk k f = true) (hr0 : h.2.1 k i f = some r) (kk : Go sc cl rd d bc bs y (pc + 3) ls (vO r.1 r.2 :: st) h Q) : Go sc cl rd d bc bs y pc ls (vO k i :: st) h Q := by
  intro p l e R s m args below meth c H locs cells slots mc ms D aC A ad ad0 n0 L S hC hDy
  obtain ⟨hx, hb, hml, hr, hown, hts, hlocks, hnm, hex, hK, hKa, hNc, hfl, hmH⟩ := id hC
  obtain ⟨hRm, hHR, hSX, hS, hA, hEx, hL, hSt, hCl⟩ := id hDy
  obtain ⟨z1, S1, rfl, hv, hSt⟩ := hSt
  obtain ⟨hi, rfl⟩ := ma_ref (Or.inl hk) hv
  obtain ⟨C, T, hc, hfn, hin, hlk, -, -⟩ := hf
  obtain ⟨Ls, hm, hnd, hP, hD, h90, hcl⟩ := id hHR
  obtain ⟨q0, hq0⟩ := ma_pos hm hi
  have he := ma_ws_at (aC := aC) (ad := ad) (h := h) hq0
  rw [ma_E_obj hk] at he
  have hz := ma_fs_ref (ad := ad) (h := h) (i := i) hfn hfk
  rw [hr0] at hz
  have hr2 := (hcl.1 _ _ _ _ hi hr0)
  exact va_get (D := D) (C := C) (T := T) hx hb hts hin hown hK hP q0 he hc f hfn (hts _ hlk) (fun _ h9 => h9) hz hd (kk p l e R s m args below meth c H locs cells slots mc ms D aC A ad ad0 n0 L (.ref (ad r.1 r.2) :: S1) hC ⟨hRm, hHR, hSX, hS, hA, hEx, hL, ⟨_, _, rfl, Or.inr (Or.inr ⟨hr2, rfl⟩), hSt⟩, hCl⟩)

theorem Go.putI {sc : Nat × (Nat → Int32)} {cl rd : Bool} {d bc bs : Nat} {y : MD} {pc : Nat} {ls st : List AV} {h : AH} {Q : GO → AH → Prop} {k i f idx : Nat} {x : Int32} (hd : decode y.2.1 pc = .ok (.putfield idx, 3)) (hf : ma_FW y k f idx) (hk : k < 90) (hfk : ma_fk k f = false) (hty : narrow (ma_ft k f) (.int x) = .int x ∧ fits (ma_ft k f) (.int x) = true) (kk : Go sc false rd d bc bs y (pc + 3) ls st (ma_up h.1 k i f x, h.2) Q) : Go sc cl rd d bc bs y pc ls (vI x :: vO k i :: st) h Q := by
  intro p l e R s m args below meth c H locs cells slots mc ms D aC A ad ad0 n0 L S hC hDy
  obtain ⟨hx, hb, hml, hr, hown, hts, hlocks, hnm, hex, hK, hKa, hNc, hfl, hmH⟩ := id hC
  obtain ⟨hRm, hHR, hSX, hS, hA, hEx, hL, hSt, hCl⟩ := id hDy
  obtain ⟨z1, S1, rfl, rfl, z2, S2, rfl, hv, hSt⟩ := hSt
  obtain ⟨hi, rfl⟩ := ma_ref (Or.inl hk) hv
  obtain ⟨C, T, hc, hfn, hin, hlk, htys, hnms, hfin⟩ := hf
  obtain ⟨Ls, hm, hnd, hP, hD, h90, hcl⟩ := id hHR
  obtain ⟨q0, hq0⟩ := ma_pos hm hi
  have he := ma_ws_at (aC := aC) (ad := ad) (h := h) hq0
  rw [ma_E_obj hk] at he
  have hset := ma_ws_set (aC := aC) (ad := ad) (h := h) (h' := (ma_up h.1 k i f x, h.2)) hnd hq0 ((ma_E_obj hk).trans (by rw [ma_fs_setI hfn hfk])) ma_E_upI
  have hcl1 : ma_cls (ma_up h.1 k i f x, h.2) := ⟨hcl.1, ma_cls_upI hcl.2 hi⟩
  rcases hfin with hfin | ⟨hfin, hini, hdecl⟩
  · refine va_put (D := D) (C := C) (T := T) hx hb hts hin (ma_ft k) htys hnms hown hK hP hD hS q0 he hc f hfn (hts _ hlk) (fun _ h9 => h9) hfin (htys f hfn) hty.1 hty.2 (by rw [ma_fs_len]; exact hfn) hd (fun H1 locs1 hP1 hD1 hS1 => ?_)
    rw [hset] at hP1 hD1
    exact kk p l e R s m args below meth c H1 locs1 cells slots mc ms D aC A ad ad0 n0 L S2 hC ⟨hRm, ⟨Ls, hm, hnd, hP1, hD1, h90, hcl1⟩, hSX, hS1, hA, hEx, hL, hSt, fun h9 => nomatch h9⟩
  · refine va_putF (D := D) (C := C) (T := T) hx hb hts hin (ma_ft k) htys hnms hown hK hP hD hS q0 he hc f hfn (hts _ hlk) (fun _ h9 => h9) hfin (hnm.trans hini) hdecl (htys f hfn) hty.1 hty.2 (by rw [ma_fs_len]; exact hfn) hd (fun H1 locs1 hP1 hD1 hS1 => ?_)
    rw [hset] at hP1 hD1
    exact kk p l e R s m args below meth c H1 locs1 cells slots mc ms D aC A ad ad0 n0 L S2 hC ⟨hRm, ⟨Ls, hm, hnd, hP1, hD1, h90, hcl1⟩, hSX, hS1, hA, hEx, hL, hSt, fun h9 => nomatch h9⟩

theorem Go.putR {sc : Nat × (Nat → Int32)} {cl rd : Bool} {d bc bs : Nat} {y : MD} {pc : Nat} {ls st : List AV} {h : AH} {Q : GO → AH → Prop} {k i f idx c2 i2 : Nat} (hd : decode y.2.1 pc = .ok (.putfield idx, 3)) (hf : ma_FW y k f idx) (hk : k < 90) (hc2 : c2 < 90 ∨ 100 ≤ c2) (hfk : ma_fk k f = true) (hty : ∀ a, narrow (ma_ft k f) (.ref a) = .ref a ∧ fits (ma_ft k f) (.ref a) = true) (kk : Go sc false rd d bc bs y (pc + 3) ls st (h.1, ma_up h.2.1 k i f (some (c2, i2)), h.2.2) Q) : Go sc cl rd d bc bs y pc ls (vO c2 i2 :: vO k i :: st) h Q := by
  intro p l e R s m args below meth c H locs cells slots mc ms D aC A ad ad0 n0 L S hC hDy
  obtain ⟨hx, hb, hml, hr, hown, hts, hlocks, hnm, hex, hK, hKa, hNc, hfl, hmH⟩ := id hC
  obtain ⟨hRm, hHR, hSX, hS, hA, hEx, hL, hSt, hCl⟩ := id hDy
  obtain ⟨z1, S1, rfl, hv1, z2, S2, rfl, hv, hSt⟩ := hSt
  obtain ⟨hi1, rfl⟩ := ma_ref hc2 hv1
  obtain ⟨hi, rfl⟩ := ma_ref (Or.inl hk) hv
  obtain ⟨C, T, hc, hfn, hin, hlk, htys, hnms, hfin⟩ := hf
  obtain ⟨Ls, hm, hnd, hP, hD, h90, hcl⟩ := id hHR
  obtain ⟨q0, hq0⟩ := ma_pos hm hi
  have he := ma_ws_at (aC := aC) (ad := ad) (h := h) hq0
  rw [ma_E_obj hk] at he
  have hset := ma_ws_set (aC := aC) (ad := ad) (h := h) (h' := (h.1, ma_up h.2.1 k i f (some (c2, i2)), h.2.2)) hnd hq0 ((ma_E_obj hk).trans (by rw [ma_fs_setR hfn hfk])) ma_E_upR
  have hcl1 : ma_cls (h.1, ma_up h.2.1 k i f (some (c2, i2)), h.2.2) := ma_cls_upR hcl hi hi1
  rcases hfin with hfin | ⟨hfin, hini, hdecl⟩
  · refine va_put (D := D) (C := C) (T := T) hx hb hts hin (ma_ft k) htys hnms hown hK hP hD hS q0 he hc f hfn (hts _ hlk) (fun _ h9 => h9) hfin (htys f hfn) (hty _).1 (hty _).2 (by rw [ma_fs_len]; exact hfn) hd (fun H1 locs1 hP1 hD1 hS1 => ?_)
    replace hP1 : va_P D maCl ((ma_ws aC ad h Ls).set q0 (ad k i, .inr (k, (ma_fs ad h k i).set f (ma_rf ad (some (c2, i2)))))) H1 := hP1
    replace hD1 : va_D A ((ma_ws aC ad h Ls).set q0 (ad k i, .inr (k, (ma_fs ad h k i).set f (ma_rf ad (some (c2, i2)))))) := hD1
    rw [hset] at hP1 hD1
    exact kk p l e R s m args below meth c H1 locs1 cells slots mc ms D aC A ad ad0 n0 L S2 hC ⟨hRm, ⟨Ls, hm, hnd, hP1, hD1, h90, hcl1⟩, hSX, hS1, hA, hEx, hL, hSt, fun h9 => nomatch h9⟩
  · refine va_putF (D := D) (C := C) (T := T) hx hb hts hin (ma_ft k) htys hnms hown hK hP hD hS q0 he hc f hfn (hts _ hlk) (fun _ h9 => h9) hfin (hnm.trans hini) hdecl (htys f hfn) (hty _).1 (hty _).2 (by rw [ma_fs_len]; exact hfn) hd (fun H1 locs1 hP1 hD1 hS1 => ?_)
    replace hP1 : va_P D maCl ((ma_ws aC ad h Ls).set q0 (ad k i, .inr (k, (ma_fs ad h k i).set f (ma_rf ad (some (c2, i2)))))) H1 := hP1
    replace hD1 : va_D A ((ma_ws aC ad h Ls).set q0 (ad k i, .inr (k, (ma_fs ad h k i).set f (ma_rf ad (some (c2, i2)))))) := hD1
    rw [hset] at hP1 hD1
    exact kk p l e R s m args below meth c H1 locs1 cells slots mc ms D aC A ad ad0 n0 L S2 hC ⟨hRm, ⟨Ls, hm, hnd, hP1, hD1, h90, hcl1⟩, hSX, hS1, hA, hEx, hL, hSt, fun h9 => nomatch h9⟩

theorem Go.iald {sc : Nat × (Nat → Int32)} {cl rd : Bool} {d bc bs : Nat} {y : MD} {pc : Nat} {ls st : List AV} {h : AH} {Q : GO → AH → Prop} {i jn : Nat} {j : Int32} (hd : decode y.2.1 pc = .ok (.iaload, 1)) (hj : j = nI jn) (hlt : jn < h.2.2.2.1 100 i) (hb31 : jn < 2 ^ 31) (kk : Go sc cl rd d bc bs y (pc + 1) ls (vI (h.1 100 i jn) :: st) h Q) : Go sc cl rd d bc bs y pc ls (vI j :: vO 100 i :: st) h Q := by
  intro p l e R s m args below meth c H locs cells slots mc ms D aC A ad ad0 n0 L S hC hDy
  obtain ⟨hx, hb, hml, hr, hown, hts, hlocks, hnm, hex, hK, hKa, hNc, hfl, hmH⟩ := id hC
  obtain ⟨hRm, hHR, hSX, hS, hA, hEx, hL, hSt, hCl⟩ := id hDy
  obtain ⟨z1, S1, rfl, rfl, z2, S2, rfl, hv, hSt⟩ := hSt
  obtain ⟨hi, rfl⟩ := ma_ref (Or.inr (by omega)) hv
  obtain ⟨Ls, hm, hnd, hP, hD, h90, hcl⟩ := id hHR
  obtain ⟨q0, hq0⟩ := ma_pos hm hi
  have he := ma_ws_at (aC := aC) (ad := ad) (h := h) hq0
  rw [ma_E_arr (by omega), ma_ar_i (by omega) (by omega)] at he
  have hKt : va_K D maCl [(aC 100, .int)] s := ⟨hK.1, fun j q hq => by
    have hj : j < 1 := (List.getElem?_eq_some_iff.mp hq).1
    rw [show j = 0 by omega] at hq
    cases hq
    exact hKa _ _ rfl⟩
  have hin : vp_in j (h.2.2.2.1 100 i) := by
    rw [hj, vp_in, nI_clamp hb31]
    rintro (q | q)
    · exact nI_pos hb31 q
    · omega
  have e9 : j.toNatClampNeg = jn := by rw [hj]; exact nI_clamp hb31
  have k9 := kk p l e R s m args below meth c H locs cells slots mc ms D aC A ad ad0 n0 L (.int (h.1 100 i jn) :: S2) hC ⟨hRm, hHR, hSX, hS, hA, hEx, hL, ⟨_, _, rfl, rfl, hSt⟩, hCl⟩
  rw [← e9] at k9
  exact va_iald (D := D) hx hb hKt hP q0 0 he rfl hin hd k9

theorem Go.zald {sc : Nat × (Nat → Int32)} {cl rd : Bool} {d bc bs : Nat} {y : MD} {pc : Nat} {ls st : List AV} {h : AH} {Q : GO → AH → Prop} {i jn : Nat} {j : Int32} (hd : decode y.2.1 pc = .ok (.baload, 1)) (hj : j = nI jn) (hlt : jn < h.2.2.2.1 102 i) (hb31 : jn < 2 ^ 31) (kk : Go sc cl rd d bc bs y (pc + 1) ls (vI (h.1 102 i jn) :: st) h Q) : Go sc cl rd d bc bs y pc ls (vI j :: vO 102 i :: st) h Q := by
  intro p l e R s m args below meth c H locs cells slots mc ms D aC A ad ad0 n0 L S hC hDy
  obtain ⟨hx, hb, hml, hr, hown, hts, hlocks, hnm, hex, hK, hKa, hNc, hfl, hmH⟩ := id hC
  obtain ⟨hRm, hHR, hSX, hS, hA, hEx, hL, hSt, hCl⟩ := id hDy
  obtain ⟨z1, S1, rfl, rfl, z2, S2, rfl, hv, hSt⟩ := hSt
  obtain ⟨hi, rfl⟩ := ma_ref (Or.inr (by omega)) hv
  obtain ⟨Ls, hm, hnd, hP, hD, h90, hcl⟩ := id hHR
  obtain ⟨q0, hq0⟩ := ma_pos hm hi
  have he := ma_ws_at (aC := aC) (ad := ad) (h := h) hq0
  rw [ma_E_arr (by omega), ma_ar_i (by omega) (by omega)] at he
  have hKt : va_K D maCl [(aC 102, .boolean)] s := ⟨hK.1, fun j q hq => by
    have hj : j < 1 := (List.getElem?_eq_some_iff.mp hq).1
    rw [show j = 0 by omega] at hq
    cases hq
    exact hKa _ _ rfl⟩
  have hin : vp_in j (h.2.2.2.1 102 i) := by
    rw [hj, vp_in, nI_clamp hb31]
    rintro (q | q)
    · exact nI_pos hb31 q
    · omega
  have e9 : j.toNatClampNeg = jn := by rw [hj]; exact nI_clamp hb31
  have k9 := kk p l e R s m args below meth c H locs cells slots mc ms D aC A ad ad0 n0 L (.int (h.1 102 i jn) :: S2) hC ⟨hRm, hHR, hSX, hS, hA, hEx, hL, ⟨_, _, rfl, rfl, hSt⟩, hCl⟩
  rw [← e9] at k9
  exact va_zald (D := D) hx hb hKt hP q0 0 he rfl hin hd k9

theorem Go.lald {sc : Nat × (Nat → Int32)} {cl rd : Bool} {d bc bs : Nat} {y : MD} {pc : Nat} {ls st : List AV} {h : AH} {Q : GO → AH → Prop} {i jn : Nat} {j : Int32} (hd : decode y.2.1 pc = .ok (.laload, 1)) (hj : j = nI jn) (hlt : jn < h.2.2.2.1 101 i) (hb31 : jn < 2 ^ 31) (kk : Go sc cl rd d bc bs y (pc + 1) ls (vL (h.2.2.1 101 i jn) :: st) h Q) : Go sc cl rd d bc bs y pc ls (vI j :: vO 101 i :: st) h Q := by
  intro p l e R s m args below meth c H locs cells slots mc ms D aC A ad ad0 n0 L S hC hDy
  obtain ⟨hx, hb, hml, hr, hown, hts, hlocks, hnm, hex, hK, hKa, hNc, hfl, hmH⟩ := id hC
  obtain ⟨hRm, hHR, hSX, hS, hA, hEx, hL, hSt, hCl⟩ := id hDy
  obtain ⟨z1, S1, rfl, rfl, z2, S2, rfl, hv, hSt⟩ := hSt
  obtain ⟨hi, rfl⟩ := ma_ref (Or.inr (by omega)) hv
  obtain ⟨Ls, hm, hnd, hP, hD, h90, hcl⟩ := id hHR
  obtain ⟨q0, hq0⟩ := ma_pos hm hi
  have he := ma_ws_at (aC := aC) (ad := ad) (h := h) hq0
  rw [ma_E_arr (by omega), ma_ar_l] at he
  have hKt : va_K D maCl [(aC 101, .long)] s := ⟨hK.1, fun j q hq => by
    have hj : j < 1 := (List.getElem?_eq_some_iff.mp hq).1
    rw [show j = 0 by omega] at hq
    cases hq
    exact hKa _ _ rfl⟩
  have hin : vp_in j (h.2.2.2.1 101 i) := by
    rw [hj, vp_in, nI_clamp hb31]
    rintro (q | q)
    · exact nI_pos hb31 q
    · omega
  have e9 : j.toNatClampNeg = jn := by rw [hj]; exact nI_clamp hb31
  have k9 := kk p l e R s m args below meth c H locs cells slots mc ms D aC A ad ad0 n0 L (.long (h.2.2.1 101 i jn) :: S2) hC ⟨hRm, hHR, hSX, hS, hA, hEx, hL, ⟨_, _, rfl, rfl, hSt⟩, hCl⟩
  rw [← e9] at k9
  exact va_lald (D := D) hx hb hKt hP q0 0 he rfl hin hd k9

theorem Go.iast {sc : Nat × (Nat → Int32)} {cl rd : Bool} {d bc bs : Nat} {y : MD} {pc : Nat} {ls st : List AV} {h : AH} {Q : GO → AH → Prop} {i jn : Nat} {j x : Int32} (hd : decode y.2.1 pc = .ok (.iastore, 1)) (hj : j = nI jn) (hlt : jn < h.2.2.2.1 100 i) (hb31 : jn < 2 ^ 31) (kk : Go sc false rd d bc bs y (pc + 1) ls st (ma_up h.1 100 i jn x, h.2) Q) : Go sc cl rd d bc bs y pc ls (vI x :: vI j :: vO 100 i :: st) h Q := by
  intro p l e R s m args below meth c H locs cells slots mc ms D aC A ad ad0 n0 L S hC hDy
  obtain ⟨hx, hb, hml, hr, hown, hts, hlocks, hnm, hex, hK, hKa, hNc, hfl, hmH⟩ := id hC
  obtain ⟨hRm, hHR, hSX, hS, hA, hEx, hL, hSt, hCl⟩ := id hDy
  obtain ⟨z1, S1, rfl, rfl, z2, S2, rfl, rfl, z3, S3, rfl, hv, hSt⟩ := hSt
  obtain ⟨hi, rfl⟩ := ma_ref (Or.inr (by omega)) hv
  obtain ⟨Ls, hm, hnd, hP, hD, h90, hcl⟩ := id hHR
  obtain ⟨q0, hq0⟩ := ma_pos hm hi
  have he := ma_ws_at (aC := aC) (ad := ad) (h := h) hq0
  rw [ma_E_arr (by omega), ma_ar_i (by omega) (by omega)] at he
  have hKt : va_K D maCl [(aC 100, .int)] s := ⟨hK.1, fun j q hq => by
    have hj : j < 1 := (List.getElem?_eq_some_iff.mp hq).1
    rw [show j = 0 by omega] at hq
    cases hq
    exact hKa _ _ rfl⟩
  have hin : vp_in j (h.2.2.2.1 100 i) := by
    rw [hj, vp_in, nI_clamp hb31]
    rintro (q | q)
    · exact nI_pos hb31 q
    · omega
  have e9 : j.toNatClampNeg = jn := by rw [hj]; exact nI_clamp hb31
  have hset := ma_ws_set (aC := aC) (ad := ad) (h := h) (h' := (ma_up h.1 100 i jn x, h.2)) (e := .inl (aC 100, h.2.2.2.1 100 i, .inl (upd (h.1 100 i) jn x))) hnd hq0 ((ma_E_arr (by omega)).trans (by
    have e1 : ma_up h.1 100 i jn x 100 i = upd (h.1 100 i) jn x := by funext q; simp [ma_up, upd]
    rw [ma_ar_i (by omega) (by omega)]; simp only [e1])) ma_E_upI
  have hcl1 : ma_cls (ma_up h.1 100 i jn x, h.2) := ⟨hcl.1, ma_cls_upI hcl.2 hi⟩
  refine va_iast (D := D) hx hb hKt hP hD hS q0 0 he rfl hin hd (fun H1 locs1 hP1 hD1 hS1 => ?_)
  rw [e9] at hP1 hD1
  rw [hset] at hP1 hD1
  exact kk p l e R s m args below meth c H1 locs1 cells slots mc ms D aC A ad ad0 n0 L S3 hC ⟨hRm, ⟨Ls, hm, hnd, hP1, hD1, h90, hcl1⟩, hSX, hS1, hA, hEx, hL, hSt, fun h9 => nomatch h9⟩

theorem Go.zast {sc : Nat × (Nat → Int32)} {cl rd : Bool} {d bc bs : Nat} {y : MD} {pc : Nat} {ls st : List AV} {h : AH} {Q : GO → AH → Prop} {i jn : Nat} {j x : Int32} (hd : decode y.2.1 pc = .ok (.bastore, 1)) (hj : j = nI jn) (hlt : jn < h.2.2.2.1 102 i) (hb31 : jn < 2 ^ 31) (hbit : x = 0 ∨ x = 1) (kk : Go sc false rd d bc bs y (pc + 1) ls st (ma_up h.1 102 i jn x, h.2) Q) : Go sc cl rd d bc bs y pc ls (vI x :: vI j :: vO 102 i :: st) h Q := by
  intro p l e R s m args below meth c H locs cells slots mc ms D aC A ad ad0 n0 L S hC hDy
  obtain ⟨hx, hb, hml, hr, hown, hts, hlocks, hnm, hex, hK, hKa, hNc, hfl, hmH⟩ := id hC
  obtain ⟨hRm, hHR, hSX, hS, hA, hEx, hL, hSt, hCl⟩ := id hDy
  obtain ⟨z1, S1, rfl, rfl, z2, S2, rfl, rfl, z3, S3, rfl, hv, hSt⟩ := hSt
  obtain ⟨hi, rfl⟩ := ma_ref (Or.inr (by omega)) hv
  obtain ⟨Ls, hm, hnd, hP, hD, h90, hcl⟩ := id hHR
  obtain ⟨q0, hq0⟩ := ma_pos hm hi
  have he := ma_ws_at (aC := aC) (ad := ad) (h := h) hq0
  rw [ma_E_arr (by omega), ma_ar_i (by omega) (by omega)] at he
  have hKt : va_K D maCl [(aC 102, .boolean)] s := ⟨hK.1, fun j q hq => by
    have hj : j < 1 := (List.getElem?_eq_some_iff.mp hq).1
    rw [show j = 0 by omega] at hq
    cases hq
    exact hKa _ _ rfl⟩
  have hin : vp_in j (h.2.2.2.1 102 i) := by
    rw [hj, vp_in, nI_clamp hb31]
    rintro (q | q)
    · exact nI_pos hb31 q
    · omega
  have e9 : j.toNatClampNeg = jn := by rw [hj]; exact nI_clamp hb31
  have hset := ma_ws_set (aC := aC) (ad := ad) (h := h) (h' := (ma_up h.1 102 i jn x, h.2)) (e := .inl (aC 102, h.2.2.2.1 102 i, .inl (upd (h.1 102 i) jn x))) hnd hq0 ((ma_E_arr (by omega)).trans (by
    have e1 : ma_up h.1 102 i jn x 102 i = upd (h.1 102 i) jn x := by funext q; simp [ma_up, upd]
    rw [ma_ar_i (by omega) (by omega)]; simp only [e1])) ma_E_upI
  have hcl1 : ma_cls (ma_up h.1 102 i jn x, h.2) := ⟨hcl.1, ma_cls_upI hcl.2 hi⟩
  refine va_zast (D := D) hx hb hKt hP hD hS q0 0 he rfl hin hd (fun H1 locs1 hP1 hD1 hS1 => ?_)
  have hnar : vp_nar .boolean x = x := by rcases hbit with rfl | rfl <;> rfl
  rw [e9, hnar] at hP1 hD1
  rw [hset] at hP1 hD1
  exact kk p l e R s m args below meth c H1 locs1 cells slots mc ms D aC A ad ad0 n0 L S3 hC ⟨hRm, ⟨Ls, hm, hnd, hP1, hD1, h90, hcl1⟩, hSX, hS1, hA, hEx, hL, hSt, fun h9 => nomatch h9⟩

theorem Go.last {sc : Nat × (Nat → Int32)} {cl rd : Bool} {d bc bs : Nat} {y : MD} {pc : Nat} {ls st : List AV} {h : AH} {Q : GO → AH → Prop} {i jn : Nat} {j : Int32} {x : Int64} (hd : decode y.2.1 pc = .ok (.lastore, 1)) (hj : j = nI jn) (hlt : jn < h.2.2.2.1 101 i) (hb31 : jn < 2 ^ 31) (kk : Go sc false rd d bc bs y (pc + 1) ls st (h.1, h.2.1, ma_up h.2.2.1 101 i jn x, h.2.2.2) Q) : Go sc cl rd d bc bs y pc ls (vL x :: vI j :: vO 101 i :: st) h Q := by
  intro p l e R s m args below meth c H locs cells slots mc ms D aC A ad ad0 n0 L S hC hDy
  obtain ⟨hx, hb, hml, hr, hown, hts, hlocks, hnm, hex, hK, hKa, hNc, hfl, hmH⟩ := id hC
  obtain ⟨hRm, hHR, hSX, hS, hA, hEx, hL, hSt, hCl⟩ := id hDy
  obtain ⟨z1, S1, rfl, rfl, z2, S2, rfl, rfl, z3, S3, rfl, hv, hSt⟩ := hSt
  obtain ⟨hi, rfl⟩ := ma_ref (Or.inr (by omega)) hv
  obtain ⟨Ls, hm, hnd, hP, hD, h90, hcl⟩ := id hHR
  obtain ⟨q0, hq0⟩ := ma_pos hm hi
  have he := ma_ws_at (aC := aC) (ad := ad) (h := h) hq0
  rw [ma_E_arr (by omega), ma_ar_l] at he
  have hKt : va_K D maCl [(aC 101, .long)] s := ⟨hK.1, fun j q hq => by
    have hj : j < 1 := (List.getElem?_eq_some_iff.mp hq).1
    rw [show j = 0 by omega] at hq
    cases hq
    exact hKa _ _ rfl⟩
  have hin : vp_in j (h.2.2.2.1 101 i) := by
    rw [hj, vp_in, nI_clamp hb31]
    rintro (q | q)
    · exact nI_pos hb31 q
    · omega
  have e9 : j.toNatClampNeg = jn := by rw [hj]; exact nI_clamp hb31
  have hset := ma_ws_set (aC := aC) (ad := ad) (h := h) (h' := (h.1, h.2.1, ma_up h.2.2.1 101 i jn x, h.2.2.2)) (e := .inl (aC 101, h.2.2.2.1 101 i, .inr (.inl (vp_updL (h.2.2.1 101 i) jn x)))) hnd hq0 ((ma_E_arr (by omega)).trans (by
    have e1 : ma_up h.2.2.1 101 i jn x 101 i = vp_updL (h.2.2.1 101 i) jn x := by funext q; simp [ma_up, vp_updL]
    rw [ma_ar_l]; simp only [e1])) ma_E_upL
  have hcl1 : ma_cls (h.1, h.2.1, ma_up h.2.2.1 101 i jn x, h.2.2.2) := ⟨hcl.1, ma_cls_upL hcl.2 hi⟩
  refine va_last (D := D) hx hb hKt hP hD hS q0 0 he rfl hin hd (fun H1 locs1 hP1 hD1 hS1 => ?_)
  rw [e9] at hP1 hD1
  rw [hset] at hP1 hD1
  exact kk p l e R s m args below meth c H1 locs1 cells slots mc ms D aC A ad ad0 n0 L S3 hC ⟨hRm, ⟨Ls, hm, hnd, hP1, hD1, h90, hcl1⟩, hSX, hS1, hA, hEx, hL, hSt, fun h9 => nomatch h9⟩

theorem Go.aald {sc : Nat × (Nat → Int32)} {cl rd : Bool} {d bc bs : Nat} {y : MD} {pc : Nat} {ls st : List AV} {h : AH} {Q : GO → AH → Prop} {a i jn : Nat} {C : String} {j : Int32} {r : Nat × Nat} (hd : decode y.2.1 pc = .ok (.aaload, 1)) (ha : 110 ≤ a) (hty : ma_ty a = some (.object C)) (hj : j = nI jn) (hlt : jn < h.2.2.2.1 a i) (hb31 : jn < 2 ^ 31) (hr0 : h.2.1 a i jn = some r) (kk : Go sc cl rd d bc bs y (pc + 1) ls (vO r.1 r.2 :: st) h Q) : Go sc cl rd d bc bs y pc ls (vI j :: vO a i :: st) h Q := by
  intro p l e R s m args below meth c H locs cells slots mc ms D aC A ad ad0 n0 L S hC hDy
  obtain ⟨hx, hb, hml, hr, hown, hts, hlocks, hnm, hex, hK, hKa, hNc, hfl, hmH⟩ := id hC
  obtain ⟨hRm, hHR, hSX, hS, hA, hEx, hL, hSt, hCl⟩ := id hDy
  obtain ⟨z1, S1, rfl, rfl, z2, S2, rfl, hv, hSt⟩ := hSt
  obtain ⟨hi, rfl⟩ := ma_ref (Or.inr (by omega)) hv
  obtain ⟨Ls, hm, hnd, hP, hD, h90, hcl⟩ := id hHR
  obtain ⟨q0, hq0⟩ := ma_pos hm hi
  have he := ma_ws_at (aC := aC) (ad := ad) (h := h) hq0
  rw [ma_E_arr (by omega), ma_ar_q ha] at he
  have hKt : va_K D maCl [(aC a, .object C)] s := ⟨hK.1, fun j q hq => by
    have hj : j < 1 := (List.getElem?_eq_some_iff.mp hq).1
    rw [show j = 0 by omega] at hq
    cases hq
    exact hKa _ _ hty⟩
  have hin : vp_in j (h.2.2.2.1 a i) := by
    rw [hj, vp_in, nI_clamp hb31]
    rintro (q | q)
    · exact nI_pos hb31 q
    · omega
  have e9 : j.toNatClampNeg = jn := by rw [hj]; exact nI_clamp hb31
  have hr2 := (hcl.1 _ _ _ _ hi hr0)
  refine va_aldq (D := D) hx hb hKt hP q0 0 he rfl hin hd ?_
  rw [e9, hr0]
  exact kk p l e R s m args below meth c H locs cells slots mc ms D aC A ad ad0 n0 L (.ref (ad r.1 r.2) :: S2) hC ⟨hRm, hHR, hSX, hS, hA, hEx, hL, ⟨_, _, rfl, Or.inr (Or.inr ⟨hr2, rfl⟩), hSt⟩, hCl⟩

theorem Go.aast {sc : Nat × (Nat → Int32)} {cl rd : Bool} {d bc bs : Nat} {y : MD} {pc : Nat} {ls st : List AV} {h : AH} {Q : GO → AH → Prop} {a i jn c2 i2 : Nat} {q2 : vw_C} {j : Int32} (hd : decode y.2.1 pc = .ok (.aastore, 1)) (ha : 110 ≤ a) (hc2 : c2 < 90) (hq2 : maCl[c2]? = some q2) (hty : ma_ty a = some (.object q2.1)) (hj : j = nI jn) (hlt : jn < h.2.2.2.1 a i) (hb31 : jn < 2 ^ 31) (kk : Go sc false rd d bc bs y (pc + 1) ls st (h.1, ma_up h.2.1 a i jn (some (c2, i2)), h.2.2) Q) : Go sc cl rd d bc bs y pc ls (vO c2 i2 :: vI j :: vO a i :: st) h Q := by
  intro p l e R s m args below meth c H locs cells slots mc ms D aC A ad ad0 n0 L S hC hDy
  obtain ⟨hx, hb, hml, hr, hown, hts, hlocks, hnm, hex, hK, hKa, hNc, hfl, hmH⟩ := id hC
  obtain ⟨hRm, hHR, hSX, hS, hA, hEx, hL, hSt, hCl⟩ := id hDy
  obtain ⟨z0, S0, rfl, hv0, z1, S1, rfl, rfl, z2, S2, rfl, hv, hSt⟩ := hSt
  obtain ⟨hi0, rfl⟩ := ma_ref (Or.inl hc2) hv0
  obtain ⟨hi, rfl⟩ := ma_ref (Or.inr (by omega)) hv
  obtain ⟨Ls, hm, hnd, hP, hD, h90, hcl⟩ := id hHR
  obtain ⟨q0, hq0⟩ := ma_pos hm hi
  have he := ma_ws_at (aC := aC) (ad := ad) (h := h) hq0
  rw [ma_E_arr (by omega), ma_ar_q ha] at he
  have hKt : va_K D maCl [(aC a, .object q2.1)] s := ⟨hK.1, fun j q hq => by
    have hj : j < 1 := (List.getElem?_eq_some_iff.mp hq).1
    rw [show j = 0 by omega] at hq
    cases hq
    exact hKa _ _ hty⟩
  have hin : vp_in j (h.2.2.2.1 a i) := by
    rw [hj, vp_in, nI_clamp hb31]
    rintro (q | q)
    · exact nI_pos hb31 q
    · omega
  have e9 : j.toNatClampNeg = jn := by rw [hj]; exact nI_clamp hb31
  obtain ⟨q3, hq3⟩ := ma_pos hm hi0
  have he3 := ma_ws_at (aC := aC) (ad := ad) (h := h) hq3
  rw [ma_E_obj hc2] at he3
  have hset := ma_ws_set (aC := aC) (ad := ad) (h := h) (h' := (h.1, ma_up h.2.1 a i jn (some (c2, i2)), h.2.2)) (e := .inl (aC a, h.2.2.2.1 a i, .inr (.inr (.inr (.inr (va_up (fun j => (h.2.1 a i j).map (fun x => ad x.1 x.2)) jn (some (ad c2 i2)))))))) hnd hq0 ((ma_E_arr (by omega)).trans (by
    have e1 : (fun j => (ma_up h.2.1 a i jn (some (c2, i2)) a i j).map (fun x => ad x.1 x.2)) = va_up (fun j => (h.2.1 a i j).map (fun x => ad x.1 x.2)) jn (some (ad c2 i2)) := by
      funext q
      by_cases hq : q = jn
      · subst hq; simp [ma_up, va_up]
      · simp [ma_up, va_up, hq]
    rw [ma_ar_q ha]; simp only [e1])) ma_E_upR
  have hcl1 : ma_cls (h.1, ma_up h.2.1 a i jn (some (c2, i2)), h.2.2) := ma_cls_upR hcl hi hi0
  refine va_astq (D := D) hx hb hKt hP hD hS q0 0 q3 c2 he rfl he3 hq2 hin hd (fun H1 locs1 hP1 hD1 hS1 => ?_)
  rw [e9] at hP1 hD1
  rw [hset] at hP1 hD1
  exact kk p l e R s m args below meth c H1 locs1 cells slots mc ms D aC A ad ad0 n0 L S2 hC ⟨hRm, ⟨Ls, hm, hnd, hP1, hD1, h90, hcl1⟩, hSX, hS1, hA, hEx, hL, hSt, fun h9 => nomatch h9⟩

theorem Go.alen {sc : Nat × (Nat → Int32)} {cl rd : Bool} {d bc bs : Nat} {y : MD} {pc : Nat} {ls st : List AV} {h : AH} {Q : GO → AH → Prop} {a i : Nat} {ty : FieldType} (hd : decode y.2.1 pc = .ok (.arraylength, 1)) (ha : 100 ≤ a) (hty : ma_ty a = some ty) (kk : Go sc cl rd d bc bs y (pc + 1) ls (vI (Int32.ofNat (h.2.2.2.1 a i)) :: st) h Q) : Go sc cl rd d bc bs y pc ls (vO a i :: st) h Q := by
  intro p l e R s m args below meth c H locs cells slots mc ms D aC A ad ad0 n0 L S hC hDy
  obtain ⟨hx, hb, hml, hr, hown, hts, hlocks, hnm, hex, hK, hKa, hNc, hfl, hmH⟩ := id hC
  obtain ⟨hRm, hHR, hSX, hS, hA, hEx, hL, hSt, hCl⟩ := id hDy
  obtain ⟨z2, S2, rfl, hv, hSt⟩ := hSt
  obtain ⟨hi, rfl⟩ := ma_ref (Or.inr (by omega)) hv
  obtain ⟨Ls, hm, hnd, hP, hD, h90, hcl⟩ := id hHR
  obtain ⟨q0, hq0⟩ := ma_pos hm hi
  have he := ma_ws_at (aC := aC) (ad := ad) (h := h) hq0
  rw [ma_E_arr (by omega)] at he
  have hKt : va_K D maCl [(aC a, ty)] s := ⟨hK.1, fun j q hq => by
    have hj : j < 1 := (List.getElem?_eq_some_iff.mp hq).1
    rw [show j = 0 by omega] at hq
    cases hq
    exact hKa _ _ hty⟩
  exact va_alen (D := D) hx hb hKt hP q0 0 he rfl rfl hd (kk p l e R s m args below meth c H locs cells slots mc ms D aC A ad ad0 n0 L (.int (Int32.ofNat (h.2.2.2.1 a i)) :: S2) hC ⟨hRm, hHR, hSX, hS, hA, hEx, hL, ⟨_, _, rfl, rfl, hSt⟩, hCl⟩)

theorem Go.sald {sc : Nat × (Nat → Int32)} {cl rd : Bool} {d bc bs : Nat} {y : MD} {pc : Nat} {ls st : List AV} {h : AH} {Q : GO → AH → Prop} {jn : Nat} {j : Int32} (hd : decode y.2.1 pc = .ok (.iaload, 1)) (hj : j = nI jn) (hlt : jn < sc.1) (hb31 : jn < 2 ^ 31) (kk : Go sc cl rd d bc bs y (pc + 1) ls (vI (sc.2 jn) :: st) h Q) : Go sc cl rd d bc bs y pc ls (vI j :: vO 99 0 :: st) h Q := by
  intro p l e R s m args below meth c H locs cells slots mc ms D aC A ad ad0 n0 L S hC hDy
  obtain ⟨hx, hb, hml, hr, hown, hts, hlocks, hnm, hex, hK, hKa, hNc, hfl, hmH⟩ := id hC
  obtain ⟨hRm, hHR, hSX, hS, hA, hEx, hL, hSt, hCl⟩ := id hDy
  obtain ⟨z1, S1, rfl, rfl, z2, S2, rfl, hv, hSt⟩ := hSt
  have hz2 : z2 = .ref (ad 99 0) := by
    rcases hv with ⟨h1, -⟩ | ⟨-, h1⟩ | ⟨-, h1⟩
    · cases h1
    · exact h1
    · exact h1
  subst hz2
  have hin : vp_in j sc.1 := by
    rw [hj, vp_in, nI_clamp hb31]
    rintro (q | q)
    · exact nI_pos hb31 q
    · omega
  have e9 : j.toNatClampNeg = jn := by rw [hj]; exact nI_clamp hb31
  have k9 := kk p l e R s m args below meth c H locs cells slots mc ms D aC A ad ad0 n0 L (.int (sc.2 jn) :: S2) hC ⟨hRm, hHR, hSX, hS, hA, hEx, hL, ⟨_, _, rfl, rfl, hSt⟩, hCl⟩
  rw [← e9] at k9
  exact va_sld hx hb hSX.1 hSX.2.2.1 hSX.2.1 hS hin hd k9

theorem Go.slen {sc : Nat × (Nat → Int32)} {cl rd : Bool} {d bc bs : Nat} {y : MD} {pc : Nat} {ls st : List AV} {h : AH} {Q : GO → AH → Prop} (hd : decode y.2.1 pc = .ok (.arraylength, 1)) (kk : Go sc cl rd d bc bs y (pc + 1) ls (vI (Int32.ofNat sc.1) :: st) h Q) : Go sc cl rd d bc bs y pc ls (vO 99 0 :: st) h Q := by
  intro p l e R s m args below meth c H locs cells slots mc ms D aC A ad ad0 n0 L S hC hDy
  obtain ⟨hx, hb, hml, hr, hown, hts, hlocks, hnm, hex, hK, hKa, hNc, hfl, hmH⟩ := id hC
  obtain ⟨hRm, hHR, hSX, hS, hA, hEx, hL, hSt, hCl⟩ := id hDy
  obtain ⟨z2, S2, rfl, hv, hSt⟩ := hSt
  have hz2 : z2 = .ref (ad 99 0) := by
    rcases hv with ⟨h1, -⟩ | ⟨-, h1⟩ | ⟨-, h1⟩
    · cases h1
    · exact h1
    · exact h1
  subst hz2
  exact va_slen hx hb hSX.1 hSX.2.2.1 hSX.2.1 hS hd (kk p l e R s m args below meth c H locs cells slots mc ms D aC A ad ad0 n0 L (.int (Int32.ofNat sc.1) :: S2) hC ⟨hRm, hHR, hSX, hS, hA, hEx, hL, ⟨_, _, rfl, rfl, hSt⟩, hCl⟩)

def ma_al (h : AH) (k : Nat) : AH := (h.1, h.2.1, h.2.2.1, h.2.2.2.1, va_up (ma_n h) k (ma_n h k + 1))
def ma_aa (h : AH) (a N : Nat) : AH := (h.1, h.2.1, h.2.2.1, ma_u2 h.2.2.2.1 a (ma_n h a) N, va_up (ma_n h) a (ma_n h a + 1))
def ma_NW (own : String) (k idx : Nat) : Prop := ∃ (C : String) (T : u_T), maCl[k]? = some (C, T, ma_nf k) ∧ (∀ w ∈ u_ws C T (ma_nf k), w ∈ maT) ∧ Cond.classLink own idx C ∈ maT ∧ Cond.instantiable C (ma_nf k) ∈ maT ∧ Cond.initialized C ∈ maT ∧ (∀ j, j < ma_nf k → parseFieldDescriptor (T j).2.2.1 = some (ma_ft k j)) ∧ (∀ j, j < ma_nf k → defaultValue (ma_ft k j) = if ma_fk k j = true then .null else .int 0)
theorem ma_Ex_new {ad : Nat → Nat → Nat} {n : Nat → Nat} {k q : Nat} (hk : k < 90 ∨ 100 ≤ k) : ma_Ex ad n (ma_u2 ad k (n k) q) (va_up n k (n k + 1)) := by
  refine ⟨fun a i hi => ⟨?_, ?_⟩, ?_⟩
  · unfold ma_u2
    rw [if_neg]
    rintro ⟨rfl, rfl⟩
    omega
  · unfold va_up
    split
    · rename_i h; subst h; omega
    · exact hi
  · unfold ma_u2
    rw [if_neg]
    rintro ⟨h1, -⟩
    omega
theorem ma_ws_new {aC : Nat → ClassId} {ad : Nat → Nat → Nat} {h h' : AH} {Ls : List (Nat × Nat)} {k q : Nat} (hm : ∀ x, x ∈ Ls ↔ x.2 < ma_n h x.1) (hcl : ma_cls h) (e1 : h'.1 = h.1) (e2 : h'.2.1 = h.2.1) (e3 : h'.2.2.1 = h.2.2.1) (e4 : ∀ a i, i < ma_n h a → h'.2.2.2.1 a i = h.2.2.2.1 a i) : ma_ws aC (ma_u2 ad k (ma_n h k) q) h' Ls = ma_ws aC ad h Ls := by
  unfold ma_ws
  refine List.map_congr_left (fun x hx => ?_)
  have hx2 := (hm x).mp hx
  have a0 : ∀ r : Nat × Nat, r.2 < ma_n h r.1 → ma_u2 ad k (ma_n h k) q r.1 r.2 = ad r.1 r.2 := by
    intro r hr
    unfold ma_u2
    rw [if_neg]
    rintro ⟨h1, h2⟩
    rw [h1] at hr
    omega
  have a1 : ∀ j, ma_rf (ma_u2 ad k (ma_n h k) q) (h.2.1 x.1 x.2 j) = ma_rf ad (h.2.1 x.1 x.2 j) := by
    intro j
    cases hr : h.2.1 x.1 x.2 j with
    | none => rfl
    | some r => simp only [ma_rf]; rw [a0 r (hcl.1 _ _ _ _ hx2 hr)]
  have a2 : (fun j => (h.2.1 x.1 x.2 j).map (fun z => ma_u2 ad k (ma_n h k) q z.1 z.2)) = (fun j => (h.2.1 x.1 x.2 j).map (fun z => ad z.1 z.2)) := by
    funext j
    cases hr : h.2.1 x.1 x.2 j with
    | none => rfl
    | some r => simp only [Option.map_some]; rw [a0 r (hcl.1 _ _ _ _ hx2 hr)]
  rw [a0 x hx2]
  simp only [ma_E, ma_fs, ma_ar, e1, e2, e3, e4 x.1 x.2 hx2, a1, a2]
theorem ma_HR_new {D : va_G} {aC : Nat → ClassId} {A : Nat → Prop} {ad : Nat → Nat → Nat} {h h' : AH} {H1 : Heap} {Ls : List (Nat × Nat)} {k q : Nat} {e : va_E} (hk : k < 90 ∨ 100 ≤ k) (hm : ∀ x, x ∈ Ls ↔ x.2 < ma_n h x.1) (hnd : Ls.Nodup) (h90 : ∀ k, 90 ≤ k → k < 100 → ma_n h k = 0) (hcl : ma_cls h) (e1 : h'.1 = h.1) (e2 : h'.2.1 = h.2.1) (e3 : h'.2.2.1 = h.2.2.1) (e4 : ∀ a i, i < ma_n h a → h'.2.2.2.1 a i = h.2.2.2.1 a i) (e5 : ma_n h' = va_up (ma_n h) k (ma_n h k + 1))
    (hE : ma_E aC (ma_u2 ad k (ma_n h k) q) h' (k, ma_n h k) = e) (hP : va_P D maCl (ma_ws aC ad h Ls ++ [(q, e)]) H1) (hD : va_D A (ma_ws aC ad h Ls ++ [(q, e)])) : ma_HR D aC A (ma_u2 ad k (ma_n h k) q) h' H1 := by
  have hw : ma_ws aC (ma_u2 ad k (ma_n h k) q) h' (Ls ++ [(k, ma_n h k)]) = ma_ws aC ad h Ls ++ [(q, e)] := by
    have q1 := ma_ws_new (aC := aC) (ad := ad) (k := k) (q := q) hm hcl e1 e2 e3 e4
    unfold ma_ws at q1 ⊢
    rw [List.map_append, q1, List.map_singleton, hE]
    have : ma_u2 ad k (ma_n h k) q k (ma_n h k) = q := by simp [ma_u2]
    rw [this]
  refine ⟨Ls ++ [(k, ma_n h k)], fun x => ?_, ?_, by rw [hw]; exact hP, by rw [hw]; exact hD, fun a ha hb => ?_, fun a i j r hi hr => ?_, fun a i j hi => ?_⟩
  · rw [e5, List.mem_append, hm x, List.mem_singleton]
    unfold va_up
    constructor
    · rintro (hx | rfl)
      · split
        · rename_i h9; rw [h9] at hx; omega
        · exact hx
      · simp
    · intro hx
      split at hx
      · rename_i h9
        by_cases h8 : x.2 = ma_n h k
        · exact Or.inr (Prod.ext h9 h8)
        · exact Or.inl (by rw [h9]; omega)
      · exact Or.inl hx
  · rw [List.nodup_append]
    refine ⟨hnd, by simp, fun x hx z hz => ?_⟩
    rw [List.mem_singleton] at hz
    subst hz
    rintro rfl
    have := (hm _).mp hx
    dsimp only at this
    omega
  · rw [e5]
    unfold va_up
    rw [if_neg (by omega)]
    exact h90 a ha hb
  · rw [e2] at hr
    rw [e5] at hi ⊢
    have hi2 : i < ma_n h a := by
      rcases Nat.lt_or_ge i (ma_n h a) with q9 | q9
      · exact q9
      · rw [(hcl.2 a i j q9).2.1] at hr; cases hr
    have := hcl.1 a i j r hi2 hr
    unfold va_up
    split
    · rename_i h9; rw [h9] at this; omega
    · exact this
  · rw [e1, e2, e3]
    refine hcl.2 a i j ?_
    rw [e5] at hi
    unfold va_up at hi
    split at hi
    · rename_i h9; rw [h9]; omega
    · exact hi

theorem Go.new {sc : Nat × (Nat → Int32)} {cl rd : Bool} {d bc bs : Nat} {y : MD} {pc : Nat} {ls st : List AV} {h : AH} {Q : GO → AH → Prop} {k idx : Nat} (hd : decode y.2.1 pc = .ok (.new idx, 3)) (hw : ma_NW y.1.cls k idx) (hk : k < 90) (kk : Go sc false rd d bc bs y (pc + 3) ls (vO k (ma_n h k) :: st) (ma_al h k) Q) : Go sc cl rd d (bc + 1) (bs + ma_nf k) y pc ls st h Q := by
  intro p l e R s m args below meth c H locs cells slots mc ms D aC A ad ad0 n0 L S hC hDy
  obtain ⟨hx, hb, hml, hr, hown, hts, hlocks, hnm, hex, hK, hKa, hNc, hfl, hmH⟩ := id hC
  obtain ⟨hRm, hHR, hSX, hS, hA, hEx, hL, hSt, hCl⟩ := id hDy
  obtain ⟨C, T, hc, hin, hlk, hins, hini, htys, hdf⟩ := hw
  obtain ⟨Ls, hm, hnd, hP, hD, h90, hcl⟩ := id hHR
  obtain ⟨r1, r2, r3, r4, r5, r6⟩ := hRm
  have hfs : ∀ j, j < ma_nf k → defaultValue (ma_ft k j) = vp_V (ma_fs ad h k (ma_n h k)) j := by
    intro j hj
    rw [hdf j hj]
    have hz := hcl.2 k (ma_n h k) j (Nat.le_refl _)
    cases hfk : ma_fk k j with
    | true => simp [vp_V, ma_fs_ref hj hfk, hz.2.1, ma_rf]
    | false => simp [vp_V, ma_fs_int hj hfk, hz.1]
  refine va_new (D := D) (C := C) (T := T) (fs := ma_fs ad h k (ma_n h k)) hx hb hts hin (ma_ft k) htys hown (hts _ hlk) (hts _ hins) (hts _ hini) hK hP hD hS hA hc hfs (by omega) (by omega) hd (fun q H1 hP1 hD1 hS1 => ?_)
  have hE9 : ma_E aC (ma_u2 ad k (ma_n h k) q) (ma_al h k) (k, ma_n h k) = .inr (k, ma_fs ad h k (ma_n h k)) := by
    rw [ma_E_obj hk]
    have hz : ∀ j, h.2.1 k (ma_n h k) j = none := fun j => (hcl.2 k (ma_n h k) j (Nat.le_refl _)).2.1
    simp [ma_fs, ma_al, hz, ma_rf]
  have hHR1 : ma_HR D aC A (ma_u2 ad k (ma_n h k) q) (ma_al h k) H1 := ma_HR_new (Or.inl hk) hm hnd h90 hcl rfl rfl rfl (fun _ _ _ => rfl) rfl hE9 hP1 hD1
  have hX9 : ma_Ex ad (ma_n h) (ma_u2 ad k (ma_n h k) q) (ma_n (ma_al h k)) := ma_Ex_new (Or.inl hk)
  have hSX9 : ma_SX sc A (ma_u2 ad k (ma_n h k) q) s := by unfold ma_SX; rw [hX9.2]; exact hSX
  exact kk p l e R s m args below meth c H1 locs (cells + 1) (slots + ma_nf k) mc ms D aC A (ma_u2 ad k (ma_n h k) q) ad0 n0 L (.ref q :: S) hC ⟨⟨r1, r2, by omega, by omega, r5, r6⟩, hHR1, hSX9, hS1, hA, ma_Ex_tr hEx hX9, ma_LR_ext hX9 hL, ⟨_, _, rfl, Or.inr (Or.inr ⟨by show ma_n h k < va_up (ma_n h) k (ma_n h k + 1) k; simp [va_up], by simp [ma_u2]⟩), ma_SR_ext hX9 hSt⟩, fun h9 => nomatch h9⟩

theorem Go.newi {sc : Nat × (Nat → Int32)} {cl rd : Bool} {d bc bs : Nat} {y : MD} {pc : Nat} {ls st : List AV} {h : AH} {Q : GO → AH → Prop} {N : Nat} {x : Int32} (hd : decode y.2.1 pc = .ok (.newarray .int, 2)) (hw : Cond.arrayClass .int ∈ maT) (hN : x = nI N) (hs : N < 65536) (kk : Go sc false rd d bc bs y (pc + 2) ls (vO 100 (ma_n h 100) :: st) (ma_aa h 100 N) Q) : Go sc cl rd d (bc + 1) (bs + N) y pc ls (vI x :: st) h Q := by
  intro p l e R s m args below meth c H locs cells slots mc ms D aC A ad ad0 n0 L S hC hDy
  obtain ⟨hx, hb, hml, hr, hown, hts, hlocks, hnm, hex, hK, hKa, hNc, hfl, hmH⟩ := id hC
  obtain ⟨hRm, hHR, hSX, hS, hA, hEx, hL, hSt, hCl⟩ := id hDy
  obtain ⟨z1, S1, rfl, rfl, hSt⟩ := hSt
  obtain ⟨Ls, hm, hnd, hP, hD, h90, hcl⟩ := id hHR
  obtain ⟨r1, r2, r3, r4, r5, r6⟩ := hRm
  subst hN
  have hc9 : (nI N).toNatClampNeg = N := nI_clamp (by omega)
  refine va_newa (D := D) (atype := .int) (ty := .int) (a0 := (N, .inl (fun _ => 0))) hx hb (hts _ hw) rfl hK hP hD hS hA (fun cA => by first | rfl | simp [vp_cell, defaultValue]) (nI_pos (by omega)) hc9 (by simp only [componentBytes]; omega) (by omega) (by omega) hd (fun q cA H1 hK1 hP1 hD1 hS1 => ?_)
  have hcA : cA = aC 100 := by
    have e1 : s.vm.findClass ("[" ++ (.int : FieldType).toString) = some cA := (hK1.2 0 (cA, .int) rfl).2
    have e2 : s.vm.findClass ("[" ++ (.int : FieldType).toString) = some (aC 100) := (hKa 100 .int rfl).2
    exact Option.some.inj (e1.symm.trans e2)
  subst hcA
  have hE9 : ma_E aC (ma_u2 ad 100 (ma_n h 100) q) (ma_aa h 100 N) (100, ma_n h 100) = .inl (aC 100, N, .inl (fun _ => 0)) := by
    rw [ma_E_arr (by omega)]
    have hz : h.1 100 (ma_n h 100) = fun _ => 0 := by funext j; exact (hcl.2 100 (ma_n h 100) j (Nat.le_refl _)).1
    simp [ma_ar, ma_aa, ma_u2, hz]
  have hHR1 : ma_HR D aC A (ma_u2 ad 100 (ma_n h 100) q) (ma_aa h 100 N) H1 := ma_HR_new (Or.inr (by omega)) hm hnd h90 hcl rfl rfl rfl (fun a i hi => by
    show ma_u2 _ _ _ _ a i = _
    unfold ma_u2
    rw [if_neg]
    rintro ⟨rfl, rfl⟩
    omega) rfl hE9 hP1 hD1
  have hX9 : ma_Ex ad (ma_n h) (ma_u2 ad 100 (ma_n h 100) q) (ma_n (ma_aa h 100 N)) := ma_Ex_new (Or.inr (by omega))
  have hSX9 : ma_SX sc A (ma_u2 ad 100 (ma_n h 100) q) s := by unfold ma_SX; rw [hX9.2]; exact hSX
  exact kk p l e R s m args below meth c H1 locs (cells + 1) (slots + N) mc ms D aC A (ma_u2 ad 100 (ma_n h 100) q) ad0 n0 L (.ref q :: S1) hC ⟨⟨r1, r2, by omega, by omega, r5, r6⟩, hHR1, hSX9, hS1, hA, ma_Ex_tr hEx hX9, ma_LR_ext hX9 hL, ⟨_, _, rfl, Or.inr (Or.inr ⟨by show ma_n h 100 < va_up (ma_n h) 100 (ma_n h 100 + 1) 100; simp [va_up], by simp [ma_u2]⟩), ma_SR_ext hX9 hSt⟩, fun h9 => nomatch h9⟩

theorem Go.newz {sc : Nat × (Nat → Int32)} {cl rd : Bool} {d bc bs : Nat} {y : MD} {pc : Nat} {ls st : List AV} {h : AH} {Q : GO → AH → Prop} {N : Nat} {x : Int32} (hd : decode y.2.1 pc = .ok (.newarray .boolean, 2)) (hw : Cond.arrayClass .boolean ∈ maT) (hN : x = nI N) (hs : N < 65536) (kk : Go sc false rd d bc bs y (pc + 2) ls (vO 102 (ma_n h 102) :: st) (ma_aa h 102 N) Q) : Go sc cl rd d (bc + 1) (bs + N) y pc ls (vI x :: st) h Q := by
  intro p l e R s m args below meth c H locs cells slots mc ms D aC A ad ad0 n0 L S hC hDy
  obtain ⟨hx, hb, hml, hr, hown, hts, hlocks, hnm, hex, hK, hKa, hNc, hfl, hmH⟩ := id hC
  obtain ⟨hRm, hHR, hSX, hS, hA, hEx, hL, hSt, hCl⟩ := id hDy
  obtain ⟨z1, S1, rfl, rfl, hSt⟩ := hSt
  obtain ⟨Ls, hm, hnd, hP, hD, h90, hcl⟩ := id hHR
  obtain ⟨r1, r2, r3, r4, r5, r6⟩ := hRm
  subst hN
  have hc9 : (nI N).toNatClampNeg = N := nI_clamp (by omega)
  refine va_newa (D := D) (atype := .boolean) (ty := .boolean) (a0 := (N, .inl (fun _ => 0))) hx hb (hts _ hw) rfl hK hP hD hS hA (fun cA => by first | rfl | simp [vp_cell, defaultValue]) (nI_pos (by omega)) hc9 (by simp only [componentBytes]; omega) (by omega) (by omega) hd (fun q cA H1 hK1 hP1 hD1 hS1 => ?_)
  have hcA : cA = aC 102 := by
    have e1 : s.vm.findClass ("[" ++ (.boolean : FieldType).toString) = some cA := (hK1.2 0 (cA, .boolean) rfl).2
    have e2 : s.vm.findClass ("[" ++ (.boolean : FieldType).toString) = some (aC 102) := (hKa 102 .boolean rfl).2
    exact Option.some.inj (e1.symm.trans e2)
  subst hcA
  have hE9 : ma_E aC (ma_u2 ad 102 (ma_n h 102) q) (ma_aa h 102 N) (102, ma_n h 102) = .inl (aC 102, N, .inl (fun _ => 0)) := by
    rw [ma_E_arr (by omega)]
    have hz : h.1 102 (ma_n h 102) = fun _ => 0 := by funext j; exact (hcl.2 102 (ma_n h 102) j (Nat.le_refl _)).1
    simp [ma_ar, ma_aa, ma_u2, hz]
  have hHR1 : ma_HR D aC A (ma_u2 ad 102 (ma_n h 102) q) (ma_aa h 102 N) H1 := ma_HR_new (Or.inr (by omega)) hm hnd h90 hcl rfl rfl rfl (fun a i hi => by
    show ma_u2 _ _ _ _ a i = _
    unfold ma_u2
    rw [if_neg]
    rintro ⟨rfl, rfl⟩
    omega) rfl hE9 hP1 hD1
  have hX9 : ma_Ex ad (ma_n h) (ma_u2 ad 102 (ma_n h 102) q) (ma_n (ma_aa h 102 N)) := ma_Ex_new (Or.inr (by omega))
  have hSX9 : ma_SX sc A (ma_u2 ad 102 (ma_n h 102) q) s := by unfold ma_SX; rw [hX9.2]; exact hSX
  exact kk p l e R s m args below meth c H1 locs (cells + 1) (slots + N) mc ms D aC A (ma_u2 ad 102 (ma_n h 102) q) ad0 n0 L (.ref q :: S1) hC ⟨⟨r1, r2, by omega, by omega, r5, r6⟩, hHR1, hSX9, hS1, hA, ma_Ex_tr hEx hX9, ma_LR_ext hX9 hL, ⟨_, _, rfl, Or.inr (Or.inr ⟨by show ma_n h 102 < va_up (ma_n h) 102 (ma_n h 102 + 1) 102; simp [va_up], by simp [ma_u2]⟩), ma_SR_ext hX9 hSt⟩, fun h9 => nomatch h9⟩

theorem Go.newl {sc : Nat × (Nat → Int32)} {cl rd : Bool} {d bc bs : Nat} {y : MD} {pc : Nat} {ls st : List AV} {h : AH} {Q : GO → AH → Prop} {N : Nat} {x : Int32} (hd : decode y.2.1 pc = .ok (.newarray .long, 2)) (hw : Cond.arrayClass .long ∈ maT) (hN : x = nI N) (hs : N < 65536) (kk : Go sc false rd d bc bs y (pc + 2) ls (vO 101 (ma_n h 101) :: st) (ma_aa h 101 N) Q) : Go sc cl rd d (bc + 1) (bs + N) y pc ls (vI x :: st) h Q := by
  intro p l e R s m args below meth c H locs cells slots mc ms D aC A ad ad0 n0 L S hC hDy
  obtain ⟨hx, hb, hml, hr, hown, hts, hlocks, hnm, hex, hK, hKa, hNc, hfl, hmH⟩ := id hC
  obtain ⟨hRm, hHR, hSX, hS, hA, hEx, hL, hSt, hCl⟩ := id hDy
  obtain ⟨z1, S1, rfl, rfl, hSt⟩ := hSt
  obtain ⟨Ls, hm, hnd, hP, hD, h90, hcl⟩ := id hHR
  obtain ⟨r1, r2, r3, r4, r5, r6⟩ := hRm
  subst hN
  have hc9 : (nI N).toNatClampNeg = N := nI_clamp (by omega)
  refine va_newa (D := D) (atype := .long) (ty := .long) (a0 := (N, .inr (.inl (fun _ => 0)))) hx hb (hts _ hw) rfl hK hP hD hS hA (fun cA => by first | rfl | simp [vp_cell, defaultValue]) (nI_pos (by omega)) hc9 (by simp only [componentBytes]; omega) (by omega) (by omega) hd (fun q cA H1 hK1 hP1 hD1 hS1 => ?_)
  have hcA : cA = aC 101 := by
    have e1 : s.vm.findClass ("[" ++ (.long : FieldType).toString) = some cA := (hK1.2 0 (cA, .long) rfl).2
    have e2 : s.vm.findClass ("[" ++ (.long : FieldType).toString) = some (aC 101) := (hKa 101 .long rfl).2
    exact Option.some.inj (e1.symm.trans e2)
  subst hcA
  have hE9 : ma_E aC (ma_u2 ad 101 (ma_n h 101) q) (ma_aa h 101 N) (101, ma_n h 101) = .inl (aC 101, N, .inr (.inl (fun _ => 0))) := by
    rw [ma_E_arr (by omega)]
    have hz : h.2.2.1 101 (ma_n h 101) = fun _ => 0 := by funext j; exact (hcl.2 101 (ma_n h 101) j (Nat.le_refl _)).2.2
    simp [ma_ar, ma_aa, ma_u2, hz]
  have hHR1 : ma_HR D aC A (ma_u2 ad 101 (ma_n h 101) q) (ma_aa h 101 N) H1 := ma_HR_new (Or.inr (by omega)) hm hnd h90 hcl rfl rfl rfl (fun a i hi => by
    show ma_u2 _ _ _ _ a i = _
    unfold ma_u2
    rw [if_neg]
    rintro ⟨rfl, rfl⟩
    omega) rfl hE9 hP1 hD1
  have hX9 : ma_Ex ad (ma_n h) (ma_u2 ad 101 (ma_n h 101) q) (ma_n (ma_aa h 101 N)) := ma_Ex_new (Or.inr (by omega))
  have hSX9 : ma_SX sc A (ma_u2 ad 101 (ma_n h 101) q) s := by unfold ma_SX; rw [hX9.2]; exact hSX
  exact kk p l e R s m args below meth c H1 locs (cells + 1) (slots + N) mc ms D aC A (ma_u2 ad 101 (ma_n h 101) q) ad0 n0 L (.ref q :: S1) hC ⟨⟨r1, r2, by omega, by omega, r5, r6⟩, hHR1, hSX9, hS1, hA, ma_Ex_tr hEx hX9, ma_LR_ext hX9 hL, ⟨_, _, rfl, Or.inr (Or.inr ⟨by show ma_n h 101 < va_up (ma_n h) 101 (ma_n h 101 + 1) 101; simp [va_up], by simp [ma_u2]⟩), ma_SR_ext hX9 hSt⟩, fun h9 => nomatch h9⟩

theorem Go.newq {sc : Nat × (Nat → Int32)} {cl rd : Bool} {d bc bs : Nat} {y : MD} {pc : Nat} {ls st : List AV} {h : AH} {Q : GO → AH → Prop} {a idx N : Nat} {C : String} {x : Int32} (hd : decode y.2.1 pc = .ok (.anewarray idx, 3)) (ha : 110 ≤ a) (hty : ma_ty a = some (.object C)) (hlk : Cond.classLink y.1.cls idx C ∈ maT) (hov : Cond.arrayOver (.object C) ∈ maT) (hN : x = nI N) (hs : N < 65536) (kk : Go sc false rd d bc bs y (pc + 3) ls (vO a (ma_n h a) :: st) (ma_aa h a N) Q) : Go sc cl rd d (bc + 1) (bs + N) y pc ls (vI x :: st) h Q := by
  intro p l e R s m args below meth c H locs cells slots mc ms D aC A ad ad0 n0 L S hC hDy
  obtain ⟨hx, hb, hml, hr, hown, hts, hlocks, hnm, hex, hK, hKa, hNc, hfl, hmH⟩ := id hC
  obtain ⟨hRm, hHR, hSX, hS, hA, hEx, hL, hSt, hCl⟩ := id hDy
  obtain ⟨z1, S1, rfl, rfl, hSt⟩ := hSt
  obtain ⟨Ls, hm, hnd, hP, hD, h90, hcl⟩ := id hHR
  obtain ⟨r1, r2, r3, r4, r5, r6⟩ := hRm
  subst hN
  have hc9 : (nI N).toNatClampNeg = N := nI_clamp (by omega)
  have n1 : ¬ a = 100 := by omega
  have n2 : ¬ a = 101 := by omega
  refine va_newq (D := D) (C := C) hx hb hown (hts _ hlk) (va_AO.of (hts _ hov)) hK hP hD hS hA (nI_pos (by omega)) hc9 (by omega) (by omega) (by omega) hd (fun q cA H1 hK1 hP1 hD1 hS1 => ?_)
  have hcA : cA = aC a := by
    obtain ⟨_, _, _, _, _, e1⟩ := (hK1.2 0 (cA, .object C) rfl).2
    obtain ⟨_, _, _, _, _, e2⟩ := (hKa a (.object C) hty).2
    exact Option.some.inj (e1.symm.trans e2)
  subst hcA
  have hE9 : ma_E aC (ma_u2 ad a (ma_n h a) q) (ma_aa h a N) (a, ma_n h a) = .inl (aC a, N, .inr (.inr (.inr (.inr (fun _ => none))))) := by
    rw [ma_E_arr (by omega)]
    have hz : ∀ j, h.2.1 a (ma_n h a) j = none := fun j => (hcl.2 a (ma_n h a) j (Nat.le_refl _)).2.1
    have n1 : ¬ a = 101 := by omega
    have n2 : ¬ a < 110 := by omega
    simp [ma_ar, ma_aa, ma_u2, hz, n1, n2]
  have hHR1 : ma_HR D aC A (ma_u2 ad a (ma_n h a) q) (ma_aa h a N) H1 := ma_HR_new (Or.inr (by omega)) hm hnd h90 hcl rfl rfl rfl (fun b i hi => by
    show ma_u2 _ _ _ _ b i = _
    unfold ma_u2
    rw [if_neg]
    rintro ⟨rfl, rfl⟩
    omega) rfl hE9 hP1 hD1
  have hX9 : ma_Ex ad (ma_n h) (ma_u2 ad a (ma_n h a) q) (ma_n (ma_aa h a N)) := ma_Ex_new (Or.inr (by omega))
  have hSX9 : ma_SX sc A (ma_u2 ad a (ma_n h a) q) s := by unfold ma_SX; rw [hX9.2]; exact hSX
  exact kk p l e R s m args below meth c H1 locs (cells + 1) (slots + N) mc ms D aC A (ma_u2 ad a (ma_n h a) q) ad0 n0 L (.ref q :: S1) hC ⟨⟨r1, r2, by omega, by omega, r5, r6⟩, hHR1, hSX9, hS1, hA, ma_Ex_tr hEx hX9, ma_LR_ext hX9 hL, ⟨_, _, rfl, Or.inr (Or.inr ⟨by show ma_n h a < va_up (ma_n h) a (ma_n h a + 1) a; simp [va_up], by simp [ma_u2]⟩), ma_SR_ext hX9 hSt⟩, fun h9 => nomatch h9⟩

theorem Go.iret {sc : Nat × (Nat → Int32)} {cl rd : Bool} {d bc bs : Nat} {y : MD} {pc : Nat} {ls : List AV} {h : AH} {Q : GO → AH → Prop} {v : Int32} {ty : FieldType} (hd : decode y.2.1 pc = .ok (.ireturn, 1)) (hty : y.2.2.2.1 = some ty) (hn : narrow ty (.int v) = .int v) (hrd : rd = true → cl = true) (hQ : Q (.inl (some (vI v))) h) : Go sc cl rd d bc bs y pc ls [vI v] h Q := by
  intro p l e R s m args below meth c H locs cells slots mc ms D aC A ad ad0 n0 L S hC hDy
  obtain ⟨hx, hb, hml, hr, hown, hts, hlocks, hnm, hex, hK, hKa, hNc, hfl, hmH⟩ := id hC
  obtain ⟨hRm, hHR, hSX, hS, hA, hEx, hL, hSt, hCl⟩ := id hDy
  obtain ⟨z1, S1, rfl, rfl, rfl⟩ := hSt
  obtain ⟨r1, r2, r3, r4, r5, r6⟩ := hRm
  refine ma_W_mono ?_ (W.zret hx hb (hr.trans hty) hn (Qc := fun _ _ o t => o = .returned (some (.int v)) ∧ t.heap = H) (free := fun q => ∃ z ∈ locs, z.base = q) (fun t ht _ => ⟨rfl, ht⟩) (fun q hq => ⟨q, hq, rfl⟩) hd)
  rintro t ⟨o, h1, h2, ⟨rfl, h3⟩, L9, ⟨-, h5, h6⟩, h7⟩
  exact ⟨_, h1, h2, h5, ⟨L9, h6.mono (by omega) (by omega), fun q hq => by obtain ⟨z, z1, z2⟩ := h7 q hq; rw [← z2]; exact hS.2.2 z z1, fun h9 => by
    cases L9 with
    | nil => rfl
    | cons q r =>
      obtain ⟨z, z1, -⟩ := h7 q List.mem_cons_self
      rw [(hCl (hrd h9)).1] at z1
      cases z1⟩, hS.F h3, .inl (some (vI v)), h, ad, hQ, ⟨_, rfl, rfl⟩, by rw [h3]; exact hHR, hEx⟩

theorem Go.vret {sc : Nat × (Nat → Int32)} {cl rd : Bool} {d bc bs : Nat} {y : MD} {pc : Nat} {ls : List AV} {h : AH} {Q : GO → AH → Prop} (hd : decode y.2.1 pc = .ok (.return_, 1)) (hty : y.2.2.2.1 = none) (hrd : rd = true → cl = true) (hQ : Q (.inl none) h) : Go sc cl rd d bc bs y pc ls [] h Q := by
  intro p l e R s m args below meth c H locs cells slots mc ms D aC A ad ad0 n0 L S hC hDy
  obtain ⟨hx, hb, hml, hr, hown, hts, hlocks, hnm, hex, hK, hKa, hNc, hfl, hmH⟩ := id hC
  obtain ⟨hRm, hHR, hSX, hS, hA, hEx, hL, hSt, hCl⟩ := id hDy
  cases hSt
  obtain ⟨r1, r2, r3, r4, r5, r6⟩ := hRm
  refine ma_W_mono ?_ (W.vret hx hb (hr.trans hty) (Qc := fun _ _ o t => o = .returned none ∧ t.heap = H) (free := fun q => ∃ z ∈ locs, z.base = q) (fun t ht _ => ⟨rfl, ht⟩) (fun q hq => ⟨q, hq, rfl⟩) hd)
  rintro t ⟨o, h1, h2, ⟨rfl, h3⟩, L9, ⟨-, h5, h6⟩, h7⟩
  exact ⟨_, h1, h2, h5, ⟨L9, h6.mono (by omega) (by omega), fun q hq => by obtain ⟨z, z1, z2⟩ := h7 q hq; rw [← z2]; exact hS.2.2 z z1, fun h9 => by
    cases L9 with
    | nil => rfl
    | cons q r =>
      obtain ⟨z, z1, -⟩ := h7 q List.mem_cons_self
      rw [(hCl (hrd h9)).1] at z1
      cases z1⟩, hS.F h3, .inl (none), h, ad, hQ, rfl, by rw [h3]; exact hHR, hEx⟩

theorem Go.aret {sc : Nat × (Nat → Int32)} {cl rd : Bool} {d bc bs : Nat} {y : MD} {pc : Nat} {ls : List AV} {h : AH} {Q : GO → AH → Prop} {k i : Nat} {C : String} (hd : decode y.2.1 pc = .ok (.areturn, 1)) (hty : y.2.2.2.1 = some (.object C)) (hrd : rd = true → cl = true) (hQ : Q (.inl (some (vO k i))) h) : Go sc cl rd d bc bs y pc ls [vO k i] h Q := by
  intro p l e R s m args below meth c H locs cells slots mc ms D aC A ad ad0 n0 L S hC hDy
  obtain ⟨hx, hb, hml, hr, hown, hts, hlocks, hnm, hex, hK, hKa, hNc, hfl, hmH⟩ := id hC
  obtain ⟨hRm, hHR, hSX, hS, hA, hEx, hL, hSt, hCl⟩ := id hDy
  obtain ⟨z1, S1, rfl, hv, rfl⟩ := hSt
  have hv' : ∃ a, z1 = .ref a := by
    rcases hv with ⟨-, a, rfl⟩ | ⟨-, rfl⟩ | ⟨-, rfl⟩ <;> exact ⟨_, rfl⟩
  obtain ⟨q, rfl⟩ := hv'
  obtain ⟨r1, r2, r3, r4, r5, r6⟩ := hRm
  refine ma_W_mono ?_ (W.aret (v := .ref q) hx hb (hr.trans hty) (Or.inl ⟨_, rfl⟩) (Or.inr ⟨_, rfl⟩) (Qc := fun _ _ o t => o = .returned (some (.ref q)) ∧ t.heap = H) (free := fun q => ∃ z ∈ locs, z.base = q) (fun t ht _ => ⟨rfl, ht⟩) (fun q hq => ⟨q, hq, rfl⟩) hd)
  rintro t ⟨o, h1, h2, ⟨rfl, h3⟩, L9, ⟨-, h5, h6⟩, h7⟩
  exact ⟨_, h1, h2, h5, ⟨L9, h6.mono (by omega) (by omega), fun q hq => by obtain ⟨z, z1, z2⟩ := h7 q hq; rw [← z2]; exact hS.2.2 z z1, fun h9 => by
    cases L9 with
    | nil => rfl
    | cons q r =>
      obtain ⟨z, z1, -⟩ := h7 q List.mem_cons_self
      rw [(hCl (hrd h9)).1] at z1
      cases z1⟩, hS.F h3, .inl (some (vO k i)), h, ad, hQ, ⟨_, rfl, hv⟩, by rw [h3]; exact hHR, hEx⟩
end
section
/-! CALLS: a callee's Go becomes a step of the caller -/
theorem ma_weaken {tb : Tables} {e : Env} {g : Frame} {below : List Frame} {a b : State} (h : Steps tb e (g :: below) a b) : Steps tb e below a b := by
  obtain ⟨n, hn, w⟩ := h
  exact ⟨n, hn, fun k hk => Within.weaken (mid := [g]) (w k hk)⟩
def ma_CW (y2 : MD) : Prop := (y2.2.2.2.2 = [] ∧ Cond.code y2.1 y2.2.1 y2.2.2.1 y2.2.2.2.1 ∈ maT) ∨ Cond.codeWith y2.1 y2.2.1 y2.2.2.1 y2.2.2.2.1 y2.2.2.2.2 ∈ maT
theorem ma_CW_spec {y2 : MD} {args : Array Value} {s : State} (hts : ∀ w ∈ maT, w.before args s = true) (h : ma_CW y2) : ∃ mk meth c, s.methodNamed? y2.1 = some mk ∧ s.vm.method? mk = some meth ∧ meth.code = some c ∧ c.code = y2.2.1 ∧ c.maxLocals = y2.2.2.1 ∧ meth.sig.returnType = y2.2.2.2.1 ∧ meth.locks = false ∧ c.exceptionTable.toList = tableOf y2.2.2.2.2 ∧ parseMethodDescriptor y2.1.desc = some meth.sig := by
  rcases h with ⟨h0, h⟩ | h
  · obtain ⟨mk, hn⟩ := Cond.code_named (hts _ h)
    obtain ⟨meth, c, h1, h2, h3, h4, h5, h6, h7, h8⟩ := Cond.code_spec hn (hts _ h)
    refine ⟨mk, meth, c, hn, h1, h2, h3, h4, h5, h6, ?_, h8⟩
    rw [h0]
    have h9 : c.exceptionTable = #[] := by simpa using h7
    rw [h9]
    rfl
  · obtain ⟨mk, meth, c, hn, h1, h2, h3, h4, h7, h5, h6, h8⟩ := Cond.codeWith_spec (hts _ h)
    exact ⟨mk, meth, c, hn, h1, h2, h3, h4, h5, h6, by rw [← h7]; exact (table_eq _).symm, h8⟩
theorem ma_SR_get {ad : Nat → Nat → Nat} {n : Nat → Nat} : ∀ {vs : List AV} {As : List Value} {k : Nat} {v : AV}, ma_SR ad n vs As → vs[k]? = some v → ∃ x, As[k]? = some x ∧ ma_RV ad n v x
  | [], _, _, _, _, h => by simp at h
  | _ :: _, _, 0, _, ⟨x, S', e, h1, _⟩, h => by subst e; simp at h; subst h; exact ⟨x, rfl, h1⟩
  | _ :: _, _, k + 1, _, ⟨x, S', e, _, h2⟩, h => by subst e; simp at h; obtain ⟨z, h3, h4⟩ := ma_SR_get h2 h; exact ⟨z, by simpa using h3, h4⟩
theorem ma_SR_len {ad : Nat → Nat → Nat} {n : Nat → Nat} : ∀ {vs : List AV} {As : List Value}, ma_SR ad n vs As → As.length = vs.length
  | [], _, h => by cases h; rfl
  | _ :: _, _, ⟨x, S', e, _, h2⟩ => by subst e; simp [ma_SR_len h2]
theorem ma_sl {ad : Nat → Nat → Nat} {n : Nat → Nat} : ∀ {vs : List AV} {As : List Value}, ma_SR ad n vs As → (∀ v ∈ vs, ma_nl v) → lg_sl As = As.map Slot.val
  | [], _, h, _ => by cases h; rfl
  | v :: vs, _, ⟨x, S', e, h1, h2⟩, hn => by
    subst e
    have h3 := ma_sl h2 (fun w hw => hn w (List.mem_cons_of_mem _ hw))
    have h4 : x.category = 1 := ma_RV_cat (hn v List.mem_cons_self) h1
    unfold lg_sl at h3 ⊢
    rw [List.flatMap_cons, h3]
    simp [h4]
theorem ma_LR_entry {ad : Nat → Nat → Nat} {n : Nat → Nat} {vs : List AV} {As : List Value} {N : Nat} (h : ma_SR ad n vs As) (hn : ∀ v ∈ vs, ma_nl v) (hN : vs.length ≤ N) : ma_LR ad n N (vs ++ List.replicate (N - vs.length) vU) ((lg_sl As ++ List.replicate (N - (lg_sl As).length) Slot.unset).toArray) := by
  have e1 := ma_sl h hn
  have e2 := ma_SR_len h
  have hl := lv_entry As (n := N) (by rw [e1, List.length_map, e2]; exact hN)
  refine ⟨hl.1, hl.2.1, fun k v hk => ?_⟩
  by_cases hkl : k < vs.length
  · rw [List.getElem?_append_left hkl] at hk
    obtain ⟨x, q1, q2⟩ := ma_SR_get h hk
    refine Or.inr ⟨hn v (List.mem_of_getElem? hk), x, ?_, q2⟩
    rw [List.getElem?_toArray, e1, List.getElem?_append_left (by rw [List.length_map, e2]; exact hkl), List.getElem?_map, q1]
    rfl
  · rw [List.getElem?_append_right (by omega)] at hk
    exact Or.inl (List.eq_of_mem_replicate (List.mem_of_getElem? hk))
theorem ma_exc {args : Array Value} {s : State} {k : Nat} {cX : ClassId} (hts : ∀ w ∈ maT, w.before args s = true) (h : s.vm.findClass (ma_en k) = some cX) : ∃ kX : Class, s.vm.classes[cX]? = some kX ∧ kX.kind = .ordinary := by
  have hi : Cond.instantiable (ma_en k) 6 ∈ maT := by
    unfold ma_en
    split
    · exact ma_in (by decide +kernel) rfl
    · exact ma_in (by decide +kernel) rfl
    · exact ma_in (by decide +kernel) rfl
    · exact ma_in (by decide +kernel) rfl
  obtain ⟨c1, kX, h1, h2, h3, -⟩ := Cond.instantiable_spec (hts _ hi)
  cases h.symm.trans h1
  exact ⟨kX, h2, h3⟩
/-- the handler that takes an exception of the kind k thrown at pc -/
def ma_hs (own : String) (pc k : Nat) : List (Nat × Nat × Nat × Nat) → Nat → Prop
  | [], _ => False
  | q :: r, tgt => (covers ⟨q.1, q.2.1, q.2.2.1, q.2.2.2⟩ pc = false ∧ ma_hs own pc k r tgt) ∨ (covers ⟨q.1, q.2.1, q.2.2.1, q.2.2.2⟩ pc = true ∧ q.2.2.2 ≠ 0 ∧ ∃ C, Cond.classLink own q.2.2.2 C ∈ maT ∧ ((C = ma_en k ∧ tgt = q.2.2.1) ∨ ((∃ j, C = ma_en j ∧ 1 ≤ j ∧ j ≤ 4 ∧ 1 ≤ k ∧ k ≤ 4 ∧ k ≠ j) ∧ ma_hs own pc k r tgt)))
def ma_hf (y : MD) (pc k tgt : Nat) : Prop := ma_hs y.1.cls pc k y.2.2.2.2 tgt
section HANDLERS
variable {e : Env} {f : JFrame} {a : Addr}
theorem ma_goYes {Q : Handler → Pre} {E : CtlPost} {d : Bool} {acts : List Action} {U : State} {x : ExceptionTableEntry} {t : List ExceptionTableEntry} {cT : ClassId} {cell : Cell} (hx : covers x f.pc = true) (h0 : x.catchType ≠ 0) (hl : U.vm.ClassLinks e.platform f.method.cls x.catchType cT) (hcell : U.heap[a]? = some cell) (hobj : cell.vm.isStatics = false) (hk : ∃ k, U.vm.classes[cell.cls]? = some k) (hc : ∃ k, U.vm.classes[cT]? = some k) (hfit : U.vm.assignable cell.cls cT = true) :
    wp (findHandler.go f a (x :: t)) Q E e d acts U ↔ Q (.found x.handlerPc) d acts (U.setVm (U.vm.noted f.method.cls x.catchType (.cls cT))) := by
  have hx' := hx
  simp only [covers] at hx'
  have hgive := (resolveClass_links e.toSetting hl).op (op := VmOp.resolveClass f.method.cls x.catchType) rfl
  have hal : U.vm.Alike (U.vm.noted f.method.cls x.catchType (.cls cT)) := (Vm.Alike.refl U.vm).noted _ _ _
  obtain ⟨k1, hk1⟩ := hk
  obtain ⟨k2, hk2⟩ := hc
  obtain ⟨j1, hj1, -⟩ := hal.2.2 _ _ hk1
  obtain ⟨j2, hj2, -⟩ := hal.2.2 _ _ hk2
  have hfit2 : (U.vm.noted f.method.cls x.catchType (.cls cT)).assignable cell.cls cT = true := by rw [hal.assignable]; exact hfit
  have hobj2 := VmData.ne_statics_of hobj
  simp [findHandler.go, hx', h0, hgive.1, hgive.2, hcell, hobj2, hj1, hj2, hfit2, VmOp.dirties, VmOp.acts]
theorem ma_goNo {Q : Handler → Pre} {E : CtlPost} {d : Bool} {acts : List Action} {U : State} {x : ExceptionTableEntry} {t : List ExceptionTableEntry} {cT : ClassId} {cell : Cell} (hx : covers x f.pc = true) (h0 : x.catchType ≠ 0) (hl : U.vm.ClassLinks e.platform f.method.cls x.catchType cT) (hcell : U.heap[a]? = some cell) (hobj : cell.vm.isStatics = false) (hk : ∃ k, U.vm.classes[cell.cls]? = some k) (hc : ∃ k, U.vm.classes[cT]? = some k) (hfit : U.vm.assignable cell.cls cT = false) :
    wp (findHandler.go f a (x :: t)) Q E e d acts U ↔ wp (findHandler.go f a t) Q E e d acts (U.setVm (U.vm.noted f.method.cls x.catchType (.cls cT))) := by
  have hx' := hx
  simp only [covers] at hx'
  have hgive := (resolveClass_links e.toSetting hl).op (op := VmOp.resolveClass f.method.cls x.catchType) rfl
  have hal : U.vm.Alike (U.vm.noted f.method.cls x.catchType (.cls cT)) := (Vm.Alike.refl U.vm).noted _ _ _
  obtain ⟨k1, hk1⟩ := hk
  obtain ⟨k2, hk2⟩ := hc
  obtain ⟨j1, hj1, -⟩ := hal.2.2 _ _ hk1
  obtain ⟨j2, hj2, -⟩ := hal.2.2 _ _ hk2
  have hfit2 : (U.vm.noted f.method.cls x.catchType (.cls cT)).assignable cell.cls cT = false := by rw [hal.assignable]; exact hfit
  have hobj2 := VmData.ne_statics_of hobj
  rw [findHandler.go]
  simp [hx', h0, hgive.1, hgive.2, hcell, hobj2, hj1, hj2, hfit2, VmOp.dirties, VmOp.acts]
theorem ma_find {s : State} {args : Array Value} {own : String} {k : Nat} {cell : Cell} {cX : ClassId} (hpl : e.platform.magicAccessors = ({} : Platform).magicAccessors) (hown : s.vm.findClass own = some f.method.cls) (hts : ∀ w ∈ maT, w.before args s = true) (hNc : ∀ j k, 1 ≤ j → j ≤ 4 → 1 ≤ k → k ≤ 4 → j ≠ k → va_Nc (ma_en j) (ma_en k) s) (hX : s.vm.findClass (ma_en k) = some cX) (hcX : ClassAt s (ma_en k) cX) (hcl : cell.cls = cX) (hobj : cell.vm.isStatics = false) :
    ∀ (hs : List (Nat × Nat × Nat × Nat)) (tgt : Nat) (U : State), s.WarmedH U.vm → U.heap[a]? = some cell → ma_hs own f.pc k hs tgt → ∃ vm', s.WarmedH vm' ∧ ∀ (Q : Handler → Pre) (E : CtlPost) (d : Bool) (acts : List Action), wp (findHandler.go f a (tableOf hs)) Q E e d acts U ↔ Q (.found tgt) d acts (U.setVm vm')
  | [], _, _, _, _, h => h.elim
  | q :: r, tgt, U, hW, hcell, h => by
    rcases h with ⟨hno, h⟩ | ⟨hyes, h0, C, hlk, h⟩
    · obtain ⟨vm', h1, h2⟩ := ma_find hpl hown hts hNc hX hcX hcl hobj r tgt U hW hcell h
      refine ⟨vm', h1, fun Q E d acts => ?_⟩
      rw [show tableOf (q :: r) = ⟨q.1, q.2.1, q.2.2.1, q.2.2.2⟩ :: tableOf r from rfl, W.findHandler_go_skip hno]
      exact h2 Q E d acts
    · obtain ⟨cT, hcT, hlnk⟩ := Cond.classLink_spec hown (hts _ hlk) e.platform hpl
      obtain ⟨dk, _, _, kt, hd, _, _, _, _, hkt, _, hopen⟩ := hlnk.here
      have hl0 := hW.classLinks hlnk
      have hW' : s.WarmedH (U.vm.noted f.method.cls q.2.2.2 (.cls cT)) := hW.noted hd hopen (State.rightAt_cls hlnk)
      obtain ⟨kt', hkt', -⟩ := hW.alike.2.2 _ _ hkt
      obtain ⟨-, kX, hkX, hkXk⟩ := hcX
      obtain ⟨kX', hkX', -⟩ := hW.alike.2.2 _ _ hkX
      rcases h with ⟨rfl, rfl⟩ | ⟨hnc, h⟩
      · have hcc : cT = cX := Option.some.inj (hcT.symm.trans hX)
        subst hcc
        refine ⟨_, hW', fun Q E d acts => ?_⟩
        rw [show tableOf (q :: r) = ⟨q.1, q.2.1, q.2.2.1, q.2.2.2⟩ :: tableOf r from rfl]
        exact ma_goYes hyes h0 hl0 hcell hobj (by rw [hcl]; exact ⟨kX', hkX'⟩) ⟨kt', hkt'⟩ (by rw [hcl, hW.alike.assignable]; exact va_assign ⟨hX, kX, hkX, hkXk⟩)
      · obtain ⟨jj, rfl, j1, j2, j3, j4, j5⟩ := hnc
        obtain ⟨c1, t1, e1, e2, e3⟩ := hNc k jj j3 j4 j1 j2 j5
        cases hX.symm.trans e1
        cases hcT.symm.trans e2
        obtain ⟨vm', h1, h2⟩ := ma_find hpl hown hts hNc hX ⟨hX, kX, hkX, hkXk⟩ hcl hobj r tgt (U.setVm (U.vm.noted f.method.cls q.2.2.2 (.cls cT))) hW' hcell h
        refine ⟨vm', h1, fun Q E d acts => ?_⟩
        rw [show tableOf (q :: r) = ⟨q.1, q.2.1, q.2.2.1, q.2.2.2⟩ :: tableOf r from rfl, ma_goNo hyes h0 hl0 hcell hobj (by rw [hcl]; exact ⟨kX', hkX'⟩) ⟨kt', hkt'⟩ (by rw [hcl, hW.alike.assignable]; exact e3)]
        exact h2 Q E d acts
end HANDLERS
/-- the thrown object is caught: the frame goes on at the handler -/
theorem ma_caught {tb : Tables} {e : Env} {U target : State} {m : MethodId} {pc tgt : Nat} {L : Array Slot} {S' : List Value} {c : Code} {below : List Frame} {x : Addr} {meth : Method} {vm' : Vm} {hs : List (Nat × Nat × Nat × Nat)} (hA : At U m c below) (hm : U.vm.method? m = some meth) (hc : meth.code = some c) (hex : c.exceptionTable.toList = tableOf hs)
    (hfind : ∀ (Q : Handler → Pre) (E : CtlPost) (d : Bool) (acts : List Action), wp (findHandler.go (F0 m pc L S') x (tableOf hs)) Q E e d acts ((U.setTop (F0 m pc L S')).pushFrame (.throwing x)) ↔ Q (.found tgt) d acts (((U.setTop (F0 m pc L S')).pushFrame (.throwing x)).setVm vm'))
    (hrest : Steps tb e below ((U.setVm vm').setTop (F0 m tgt L [.ref x])) target) : Steps tb e below ((U.setTop (F0 m pc L S')).pushFrame (.throwing x)) target := by
  obtain ⟨hgo, hw⟩ := At.throwing (g := F0 m pc L S') hA x
  refine Steps.head hgo hw ?_
  obtain ⟨g₀, hg⟩ := Option.isSome_iff_exists.mp hA.top
  obtain ⟨r, hr⟩ := State.topJava?_eq_some.mp hg
  have hm' : ((U.setTop (F0 m pc L S')).pushFrame (.throwing x)).vm.method? (F0 m pc L S').method = some meth := by simpa [State.pushFrame, State.setFrames, State.setTop, State.modifyTopJava] using hm
  have hstep : (stepThrowing e ((U.setTop (F0 m pc L S')).pushFrame (.throwing x)) x (.java (F0 m pc L S') :: r)).Is ((((U.setTop (F0 m pc L S')).pushFrame (.throwing x)).setVm vm').setFrames (.java { F0 m pc L S' with pc := tgt, stack := [.ref x] } :: r)) [] := by
    simp only [stepThrowing, searchFrame, vmDo]
    generalize hres : Sem.go _ e false [] _ = res
    obtain ⟨as, rfl, ha⟩ := Sem.eq_ok_of hres (a := Handler.found tgt) (s' := ((U.setTop (F0 m pc L S')).pushFrame (.throwing x)).setVm vm') (acts' := []) (by
      have hf : ∀ (Q : Handler → Pre) (E : CtlPost) (d : Bool) (acts : List Action), wp (findHandler (F0 m pc L S') x) Q E e d acts ((U.setTop (F0 m pc L S')).pushFrame (.throwing x)) ↔ Q (.found tgt) d acts (((U.setTop (F0 m pc L S')).pushFrame (.throwing x)).setVm vm') := by
        intro Q E d acts
        rw [W.findHandler_eq hm' hc, hex]
        exact hfind Q E d acts
      simp [hf])
    exact ⟨rfl, ha⟩
  rw [stepThread_throwing (frames_entered hA.top _), hr]
  rw [List.tail_cons, hstep.1]
  have hr' : (U.setVm vm').frames = .java g₀ :: r := hr
  rw [State.setTop_of_frames _ hr'] at hrest
  have e5 : ∀ (F G : List Frame), ((U.setFrames F).setVm vm').setFrames G = (U.setVm vm').setFrames G := fun F G => by
    have e6 : (U.setFrames F).setVm vm' = (U.setVm vm').setFrames F := rfl
    rw [e6, State.setFrames_setFrames]
  rw [State.pushFrame, State.setTop_of_frames _ hr, State.setFrames_setFrames, e5]
  exact hrest
theorem ma_at_ns {D : va_G} {q : Nat × va_E} {H : Heap} (h : va_at D maCl q H) : ∀ cell : Cell, H[q.1]? = some cell → cell.vm.isStatics = false := by
  obtain ⟨a, e⟩ := q
  intro cell hc
  rcases e with x | o
  · have h1 : H[a]? = some (vp_cell x.1 x.2) := h
    rw [h1] at hc
    cases hc
    obtain ⟨cA, n, b⟩ := x
    rcases b with b | b | b | b | b <;> rfl
  · obtain ⟨r, h1, cell', g1, g2, g3, -⟩ := h
    have g1' : H[a]? = some cell' := g1
    rw [g1'] at hc
    cases hc
    rw [g3]; rfl
theorem ma_HR_weak {D : va_G} {aC : Nat → ClassId} {A A' : Nat → Prop} {ad : Nat → Nat → Nat} {h : AH} {H : Heap} (hA : ∀ q, A q → A' q) (hH : ma_HR D aC A ad h H) : ma_HR D aC A' ad h H := by
  obtain ⟨Ls, hm, hnd, hP, hD, h90, hcl⟩ := hH
  exact ⟨Ls, hm, hnd, hP, ⟨hD.1, fun k q hk => hA _ (hD.2 k q hk)⟩, h90, hcl⟩
def ma_A2 (A : Nat → Prop) (H : Heap) : Nat → Prop := fun q => A q ∧ ∀ cell : Cell, H[q]? = some cell → cell.vm.isStatics = false
theorem ma_HR_ns {D : va_G} {aC : Nat → ClassId} {A : Nat → Prop} {ad : Nat → Nat → Nat} {h : AH} {H : Heap} (hH : ma_HR D aC A ad h H) : ma_HR D aC (ma_A2 A H) ad h H := by
  obtain ⟨Ls, hm, hnd, hP, hD, h90, hcl⟩ := hH
  exact ⟨Ls, hm, hnd, hP, ⟨hD.1, fun k q hk => ⟨hD.2 k q hk, ma_at_ns (hP k q hk)⟩⟩, h90, hcl⟩
theorem ma_HR_ad {D : va_G} {aC : Nat → ClassId} {A : Nat → Prop} {ad ad' : Nat → Nat → Nat} {h : AH} {H : Heap} (he : ∀ k i, i < ma_n h k → ad' k i = ad k i) (hH : ma_HR D aC A ad h H) : ma_HR D aC A ad' h H := by
  obtain ⟨Ls, hm, hnd, hP, hD, h90, hcl⟩ := hH
  have hw : ma_ws aC ad' h Ls = ma_ws aC ad h Ls := by
    unfold ma_ws
    refine List.map_congr_left (fun x hx => ?_)
    have hx2 := (hm x).mp hx
    have a1 : ∀ j, ma_rf ad' (h.2.1 x.1 x.2 j) = ma_rf ad (h.2.1 x.1 x.2 j) := by
      intro j
      cases hr : h.2.1 x.1 x.2 j with
      | none => rfl
      | some r => simp only [ma_rf]; rw [he _ _ (hcl.1 _ _ _ _ hx2 hr)]
    have a2 : (fun j => (h.2.1 x.1 x.2 j).map (fun z => ad' z.1 z.2)) = (fun j => (h.2.1 x.1 x.2 j).map (fun z => ad z.1 z.2)) := by
      funext j
      cases hr : h.2.1 x.1 x.2 j with
      | none => rfl
      | some r => simp only [Option.map_some]; rw [he _ _ (hcl.1 _ _ _ _ hx2 hr)]
    rw [he _ _ hx2]
    simp only [ma_E, ma_fs, ma_ar, a1, a2]
  exact ⟨Ls, hm, hnd, by rw [hw]; exact hP, by rw [hw]; exact hD, h90, hcl⟩
section CORE
variable {sc : Nat × (Nat → Int32)} {cl cl' rd rd2 : Bool} {d2 bc2 bs2 bc bs : Nat} {y y2 : MD} {h : AH} {vs ls st : List AV} {Q2 Q : GO → AH → Prop} {p : Program} {l : Launch} {e : Env} {R : Room} {s T1 : State} {m mk : MethodId} {args : Array Value} {below : List Frame} {meth : Method} {c : Code} {H : Heap} {locs : List Loc} {cells slots mc ms : Nat} {D : va_G} {aC : Nat → ClassId} {A : Nat → Prop} {ad ad0 : Nat → Nat → Nat} {n0 : Nat → Nat} {L : Array Slot} {S' As : List Value} {pc : Nat} {ig : Instr}
set_option maxHeartbeats 1000000 in
theorem ma_core (hC : ma_Cx y p l s m args meth c D aC) (hHR : ma_HR D aC A ad h H) (hSX : ma_SX sc A ad s) (hS : va_S A s.heap H locs) (hA : ∀ q, s.heap.size ≤ q → A q) (hL : ma_LR ad (ma_n h) y.2.2.1 ls L)
    (X₁ : Stand p l e R s m args below meth c T1 locs cells slots) (hT1 : T1.heap = H) (hn : s.methodNamed? y2.1 = some mk) (hcw : ma_CW y2) (hpl : plainFor y2.1 = true)
    (hN : vs.length ≤ y2.2.2.1) (h40 : y2.2.2.1 ≤ 40) (hnl : ∀ v ∈ vs, ma_nl v) (hAs : ma_SR ad (ma_n h) vs As) (hrest : (S'.map fun v => v.category).sum ≤ 8) (hd : decode y.2.1 pc = .ok (ig, 3))
    (r1 : d2 + 1 ≤ R.frames) (r2 : 64 * (d2 + 1) ≤ R.locals) (r3 : cells + bc2 ≤ R.cells) (r4 : slots + bs2 ≤ R.slots)
    (G2 : Go sc true rd2 d2 bc2 bs2 y2 0 (vs ++ List.replicate (y2.2.2.1 - vs.length) vU) [] h Q2) :
    ∃ t : State, (∀ acts, Steps p.tables e below (doInvoke e (T1.setTop (F0 m pc L S')) acts mk As.toArray).1 t) ∧ ma_Z (.java (F0 m pc L S') :: below) D aC (ma_A2 A H) ad (ma_n h) rd2 Q2 (T1.calling (F0 m pc L S') mk As.toArray) bc2 bs2 t := by
  obtain ⟨hx, hb, hml, hr, hown, hts, hlocks, hnm, hex, hK, hKa, hNc, hfl, hmH⟩ := id hC
  obtain ⟨mk', methk, ck, hn', hmk, hck, q1, q2, q3, q4, q5, q6⟩ := ma_CW_spec hts hcw
  cases hn.symm.trans hn'
  have hW := X₁.warmed
  have hmk1 : T1.vm.method? mk = some methk := by rw [hW.alike.method?]; exact hmk
  have hn1 : T1.methodNamed? y2.1 = some mk := X₁.named hn
  have hpm : T1.plainMethod mk := State.plainMethod.of_named hpl hn1 hmk1
  have hroom := lv_room (m := m) (pc := pc) (ls := L) (rest := S') (st := S') hrest
  obtain ⟨X2, hent⟩ := X₁.into (g := F0 m pc L S') rfl (hL.1.trans hml.symm) (ig := ig) (len := 3) (by rw [hb]; exact hd) (a := As.toArray) (R' := { frames := d2, cells := bc2, slots := bs2, locals := 64 * d2 }) hmk1 hck q4 hpm r1 (by
    show 2 * (F0 m pc L S').monitorRoom + (S'.map fun v => v.category).sum + (ck.maxLocals + 11) + 64 * d2 ≤ R.locals
    rw [q2]; omega) r3 r4
  have hC2 : ma_Cx y2 p l (T1.calling (F0 m pc L S') mk As.toArray) mk As.toArray methk ck D aC :=
    ⟨hx, q1, q2, q3, findClass_of_methodNamed hn1, fun w hw => ma_keep (s := s) (U := T1.calling (F0 m pc L S') mk As.toArray) hW (ma_good w hw) (hts w hw), q4, (name_of_methodNamed hn1 hmk1).1, q5, va_K.moved hW.alike hK, fun k ty hk => ⟨arrOfT_moved hW.alike (hKa k ty hk).1, (hKa k ty hk).2.moved hW.alike⟩, fun j k h1 h2 h3 h4 h5 => va_Nc.moved hW.alike (hNc j k h1 h2 h3 h4 h5), hfl, ma_keepH (s := s) (U := T1.calling (F0 m pc L S') mk As.toArray) hW (fun q cell hc hs9 => by
      have hnA : ¬ A q := fun h9 => by rw [hSX.2.2.2 q cell h9 hc] at hs9; cases hs9
      show T1.heap[q]? = some cell
      rw [hT1, hS.2.1 q (Array.getElem?_eq_some_iff.mp hc).1 hnA]
      exact hc) hmH⟩
  have hh2 : (T1.calling (F0 m pc L S') mk As.toArray).heap = H := hT1
  have hDy2 : ma_Dy sc true d2 bc2 bs2 y2 (vs ++ List.replicate (y2.2.2.1 - vs.length) vU) [] h { frames := d2, cells := bc2, slots := bs2, locals := 64 * d2 } (T1.calling (F0 m pc L S') mk As.toArray) H [] 0 0 bc2 bs2 D aC (ma_A2 A H) ad ad (ma_n h) ((lg_sl As ++ List.replicate (y2.2.2.1 - (lg_sl As).length) Slot.unset).toArray) [] := by
    refine ⟨⟨Nat.le_refl _, Nat.le_refl _, by omega, by omega, Nat.le_refl _, Nat.le_refl _⟩, ma_HR_ns hHR, ⟨?_, fun q => hSX.2.1 q.1, ?_, fun q cell hq hc => hq.2 cell (by rw [hh2] at hc; exact hc)⟩, by rw [hh2]; exact va_S.rf, fun q hq => ⟨hA q (by rw [hh2] at hq; exact Nat.le_trans hS.1 hq), fun cell hc => by
      rw [hh2] at hq
      have := (Array.getElem?_eq_some_iff.mp hc).1
      omega⟩, ma_Ex_rf, ma_LR_entry hAs hnl hN, rfl, fun _ => ⟨rfl, by rw [hh2]; exact ma_HR_ns hHR⟩⟩
    · rw [hh2]
      exact va_X.moved hW.alike (hSX.1.kept (hS.2.1 _ hSX.2.2.1 hSX.2.1))
    · rw [hh2]
      exact Nat.lt_of_lt_of_le hSX.2.2.1 hS.1
  obtain ⟨t, st, hz⟩ := G2 p l e _ _ mk As.toArray (.java (F0 m pc L S') :: below) methk ck H [] 0 0 bc2 bs2 D aC (ma_A2 A H) ad ad (ma_n h) _ [] hC2 hDy2 _ (show ((T1.setTop (F0 m pc L S')).pushFrame (.java (entryFrame mk As.toArray ck.maxLocals))).heap = H from hT1) X2
  refine ⟨t, fun acts => ?_, hz⟩
  rw [hent acts]
  have e9 : entryFrame mk As.toArray ck.maxLocals = F0 mk 0 ((lg_sl As ++ List.replicate (y2.2.2.1 - (lg_sl As).length) Slot.unset).toArray) [] := by rw [q2]; exact lg_entry_eq mk As y2.2.2.1
  rw [← e9] at st
  exact ma_weaken st
/-- the invoking instruction's own step -/
def ma_Inv (p : Program) (l : Launch) (e : Env) (R : Room) (s : State) (m : MethodId) (args : Array Value) (below : List Frame) (meth : Method) (c : Code) (H : Heap) (y2 : MD) (g : JFrame) (rest As : List Value) : Prop :=
  ∀ (T : State) (locs : List Loc) (cells slots : Nat), T.heap = H → Stand p l e R s m args below meth c T locs cells slots → ∃ (vm₁ : Vm) (mk : MethodId), Stand p l e R s m args below meth c (T.setVm vm₁) locs cells slots ∧ s.methodNamed? y2.1 = some mk ∧ ∀ target, (∀ acts, Steps p.tables e below (doInvoke e ((T.setVm vm₁).setTop { g with stack := rest }) acts mk As.toArray).1 target) → Steps p.tables e below (T.setTop g) target
/-- where a thrown object goes: out of the method, or to a handler -/
def ma_thr (sc : Nat × (Nat → Int32)) (cl rd : Bool) (d bc bs : Nat) (y : MD) (pc : Nat) (ls : List AV) (h1 : AH) (Q : GO → AH → Prop) (k : Nat) : Prop :=
  ((tableOf y.2.2.2.2).all (fun x => !covers x pc) = true ∧ (rd = true → cl = true) ∧ Q (.inr k) h1) ∨ ∃ tgt, ma_hf y pc k tgt ∧ Go sc cl rd d bc bs y tgt ls [vO 97 0] h1 Q

set_option maxHeartbeats 1000000 in
theorem ma_call {Sf : List Value} {d2 : Nat} (hC : ma_Cx y p l s m args meth c D aC) (hDy : ma_Dy sc cl (d2 + 1) (bc + bc2) (bs + bs2) y ls st h R s H locs cells slots mc ms D aC A ad ad0 n0 L S') (hinv : ma_Inv p l e R s m args below meth c H y2 (F0 m pc L Sf) S' As) (hcw : ma_CW y2) (hpl : plainFor y2.1 = true)
    (hN : vs.length ≤ y2.2.2.1) (h40 : y2.2.2.1 ≤ 40) (hnl : ∀ v ∈ vs, ma_nl v) (hAs : ma_SR ad (ma_n h) vs As) (hrest : (S'.map fun v => v.category).sum ≤ 8) (hd : decode y.2.1 pc = .ok (ig, 3)) (hcl' : cl' = true → cl = true ∧ rd2 = true ∧ ∀ g h1, Q2 g h1 → h1 = h)
    (G2 : Go sc true rd2 d2 bc2 bs2 y2 0 (vs ++ List.replicate (y2.2.2.1 - vs.length) vU) [] h Q2)
    (kr : ∀ h1, Q2 (.inl none) h1 → Go sc cl' rd (d2 + 1) bc bs y (pc + 3) ls st h1 Q) (kv : ∀ v h1, Q2 (.inl (some v)) h1 → Go sc cl' rd (d2 + 1) bc bs y (pc + 3) ls (v :: st) h1 Q) (kt : ∀ k h1, Q2 (.inr k) h1 → ma_thr sc cl' rd (d2 + 1) bc bs y pc ls h1 Q k) :
    W p l e R s m args below meth c H locs cells slots (ma_Z below D aC A ad0 n0 rd Q s mc ms) (F0 m pc L Sf) := by
  intro T hT X
  obtain ⟨hx, hb, hml, hr, hown, hts, hlocks, hnm, hex, hK, hKa, hNc, hfl, hmH⟩ := id hC
  obtain ⟨⟨r1, r2, r3, r4, r5, r6⟩, hHR, hSX, hS, hA, hEx, hL, hSt, hCl⟩ := id hDy
  obtain ⟨vm₁, mk, X₁, hn, hstep⟩ := hinv T locs cells slots hT X
  obtain ⟨t, hsteps, o, z1, z2, z3, ⟨L9, z4, z4', z4r⟩, z5, g, h1, ad1, c1, c2, c3, c4⟩ := ma_core (pc := pc) (L := L) (S' := S') hC hHR hSX hS hA hL X₁ hT hn hcw hpl hN h40 hnl hAs hrest hd r1 r2 (by omega) (by omega) G2
  replace c3 := ma_HR_weak (fun q (hq : ma_A2 A H q) => hq.1) c3
  have hSXa : ma_SX sc A ad1 s := by unfold ma_SX; rw [c4.2]; exact hSX
  have hz5 : H.size ≤ t.heap.size ∧ ∀ q : Nat, q < H.size → ¬ A q → t.heap[q]? = H[q]? := by
    have z5 : va_F (ma_A2 A H) _ t := z5
    have e9 : ((T.setVm vm₁).calling (F0 m pc L S') mk As.toArray).heap = H := hT
    unfold va_F at z5
    rw [e9] at z5
    exact ⟨z5.1, fun q h9 h8 => z5.2 q h9 (fun h7 => h8 h7.1)⟩
  have hS1 : va_S A s.heap t.heap (locs ++ L9) := ⟨Nat.le_trans hS.1 hz5.1, fun q h9 h8 => (hz5.2 q (Nat.lt_of_lt_of_le h9 hS.1) h8).trans (hS.2.1 q h9 h8), fun q hq => by
    rcases List.mem_append.mp hq with h9 | h9
    · exact hS.2.2 q h9
    · exact (z4' q h9).1⟩
  have hCl1 : cl' = true → locs ++ L9 = [] ∧ ma_HR D aC A ad1 h1 s.heap := by
    intro h9
    obtain ⟨e1, e2, e3⟩ := hcl' h9
    have e4 := e3 g h1 c1
    subst e4
    obtain ⟨f1, f2⟩ := hCl e1
    exact ⟨by rw [f1, z4r e2]; rfl, ma_HR_ad (fun k i hi => (c4.1 k i hi).1) f2⟩
  cases o with
  | returned v =>
    obtain ⟨T', X', hw', hsame', ht⟩ := X₁.outOf (g := F0 m pc L S') rfl (ig := ig) (len := 3) (by rw [hb]; exact hd) (mk := mk) (a := As.toArray) z2 z3 z4
    have hth : T'.heap = t.heap := by rw [ht]; rfl
    have fin : ∀ (st' : List AV) (Sx : List Value), v.toList ++ S' = Sx → ma_SR ad1 (ma_n h1) st' Sx → Go sc cl' rd (d2 + 1) bc bs y (pc + 3) ls st' h1 Q → ∃ t, Steps p.tables e below (T.setTop (F0 m pc L Sf)) t ∧ ma_Z below D aC A ad0 n0 rd Q s mc ms t := by
      intro st' Sx hSx hst' G
      obtain ⟨t2, a1, b1⟩ := G p l e R s m args below meth c t.heap (locs ++ L9) (cells + bc2) (slots + bs2) mc ms D aC A ad1 ad0 n0 L Sx hC ⟨⟨r1, r2, by omega, by omega, r5, r6⟩, c3, hSXa, hS1, hA, ma_Ex_tr hEx c4, ma_LR_ext c4 hL, hst', hCl1⟩ T' hth X'
      refine ⟨t2, hstep _ (fun acts => (hsteps acts).trans ?_), b1⟩
      rw [ht]
      subst hSx
      exact a1
    rcases g with (_ | v') | k
    · cases c2
      exact fin st S' rfl (ma_SR_ext c4 hSt) (kr h1 c1)
    · obtain ⟨x, c2, c5⟩ := c2
      cases c2
      exact fin (v' :: st) (x :: S') rfl ⟨_, _, rfl, c5, ma_SR_ext c4 hSt⟩ (kv v' h1 c1)
    · obtain ⟨x, c2, -⟩ := c2
      cases c2
  | threw x =>
    rcases g with (_ | v') | k
    · cases c2
    · obtain ⟨x, c2, -⟩ := c2
      cases c2
    · obtain ⟨x', c2, c5⟩ := c2
      cases c2
      obtain ⟨T', X', hw', hsame', ht⟩ := X₁.outOfThrown (g := F0 m pc L S') rfl (mk := mk) (a := As.toArray) z2 z3 z4
      have hth : T'.heap = t.heap := by rw [ht]; simp [State.pushFrame, State.setFrames, State.setTop, State.modifyTopJava]
      have htv : T'.vm = t.vm := by rw [ht]; simp [State.pushFrame, State.setFrames, State.setTop, State.modifyTopJava]
      rcases kt k h1 c1 with ⟨hout, hrd, hq⟩ | ⟨tgt, hhf, G⟩
      · have hout' : ∀ z ∈ c.exceptionTable.toList, covers z (F0 m pc L S').pc = false := by
          intro z hz
          rw [hex] at hz
          have h9 : (!covers z pc) = true := List.all_eq_true.mp hout z hz
          show covers z pc = false
          cases hcv : covers z pc with
          | true => rw [hcv] at h9; cases h9
          | false => rfl
        obtain ⟨l1, l2, l3, l4, l5⟩ := X'.leaveThrown x (g := F0 m pc L S') rfl rfl rfl hout' hlocks
        refine ⟨T'.setFrames (.throwing x :: below), hstep _ (fun acts => (hsteps acts).trans (by rw [ht]; exact l1)), .threw x, l2, l3, l4, ⟨locs ++ L9, l5.mono (by omega) (by omega), hS1.2.2, fun h9 => (hCl1 (hrd h9)).1⟩, ⟨by show s.heap.size ≤ T'.heap.size; rw [hth]; exact hS1.1, fun q h9 h8 => by show T'.heap[q]? = _; rw [hth]; exact hS1.2.1 q h9 h8⟩, .inr k, h1, ad1, hq, ⟨x, rfl, ?_⟩, by show ma_HR D aC A ad1 h1 T'.heap; rw [hth]; exact c3, ma_Ex_tr hEx c4⟩
        obtain ⟨cell, e1, e2, e3⟩ := c5
        exact ⟨cell, by show T'.heap[x]? = _; rw [hth]; exact e1, e2, by show T'.vm.findClass _ = _; rw [htv]; exact e3⟩
      · obtain ⟨cell, e1, e2, e3⟩ := c5
        have hXs : s.vm.findClass (ma_en k) = some cell.cls := by
          have := X'.warmed.alike.findClass (ma_en k)
          rw [htv] at this
          rw [← this]; exact e3
        obtain ⟨kX, hkX, hkXk⟩ := ma_exc (args := args) hts hXs
        have hmX : (((T'.setTop (F0 m pc L S')).pushFrame (.throwing x))).vm = T'.vm := by simp [State.pushFrame, State.setFrames, State.setTop, State.modifyTopJava]
        have hhX : (((T'.setTop (F0 m pc L S')).pushFrame (.throwing x))).heap = T'.heap := by simp [State.pushFrame, State.setFrames, State.setTop, State.modifyTopJava]
        obtain ⟨vm', hW', hfind⟩ := ma_find (e := e) (f := F0 m pc L S') (a := x) (s := s) (args := args) (k := k) (cell := cell) (by rw [X.admits.platform]) hown hts hNc hXs ⟨hXs, kX, hkX, hkXk⟩ rfl e2 y.2.2.2.2 tgt ((T'.setTop (F0 m pc L S')).pushFrame (.throwing x)) (by rw [hmX]; exact X'.warmed) (by rw [hhX, hth]; exact e1) hhf
        have X9 := X'.noted hW'
        obtain ⟨t2, a1, b1⟩ := G p l e R s m args below meth c t.heap (locs ++ L9) (cells + bc2) (slots + bs2) mc ms D aC A ad1 ad0 n0 L [.ref x] hC ⟨⟨r1, r2, by omega, by omega, r5, r6⟩, c3, hSXa, hS1, hA, ma_Ex_tr hEx c4, ma_LR_ext c4 hL, ⟨_, _, rfl, Or.inl ⟨rfl, x, rfl⟩, rfl⟩, hCl1⟩ (T'.setVm vm') hth X9
        refine ⟨t2, hstep _ (fun acts => (hsteps acts).trans ?_), b1⟩
        rw [ht]
        exact ma_caught X'.here (X'.method') X'.code hex hfind a1
end CORE
end
section
/-! THE THREE CALLS -/
def ma_VW (own : String) (idx : Nat) (y2 : MD) (k n : Nat) : Prop := Cond.methodLink own idx y2.1 ∈ maT ∧ Cond.instanceMethod y2.1 ∈ maT ∧ (∃ q, maCl[k]? = some q ∧ Cond.selects q.1 y2.1 y2.1 ∈ maT) ∧ (y2.1.cls ≠ "java/lang/invoke/MethodHandle" ∧ y2.1.cls ≠ "java/lang/invoke/VarHandle") ∧ (parseMethodDescriptor y2.1.desc).map (fun d => d.parameters.length) = some n ∧ ma_CW y2 ∧ plainFor y2.1 = true ∧ y2.2.2.1 ≤ 40
def ma_SW (own : String) (idx : Nat) (y2 : MD) (n : Nat) : Prop := Cond.methodLink own idx y2.1 ∈ maT ∧ Cond.static y2.1 ∈ maT ∧ Cond.initialized y2.1.cls ∈ maT ∧ (y2.1.cls ≠ "java/lang/invoke/MethodHandle" ∧ y2.1.cls ≠ "java/lang/invoke/VarHandle") ∧ (parseMethodDescriptor y2.1.desc).map (fun d => d.parameters.length) = some n ∧ ma_CW y2 ∧ plainFor y2.1 = true ∧ y2.2.2.1 ≤ 40
def ma_IW (own : String) (idx : Nat) (y2 : MD) (n : Nat) : Prop := Cond.methodLink own idx y2.1 ∈ maT ∧ Cond.instanceMethod y2.1 ∈ maT ∧ y2.1.name = "<init>" ∧ (y2.1.cls ≠ "java/lang/invoke/MethodHandle" ∧ y2.1.cls ≠ "java/lang/invoke/VarHandle") ∧ (parseMethodDescriptor y2.1.desc).map (fun d => d.parameters.length) = some n ∧ Cond.code y2.1 y2.2.1 y2.2.2.1 none ∈ maT ∧ ma_CW y2 ∧ plainFor y2.1 = true ∧ y2.2.2.1 ≤ 40
theorem ma_par {y2 : MD} {n : Nat} {sig : MethodDescriptor} (h : (parseMethodDescriptor y2.1.desc).map (fun d => d.parameters.length) = some n) (hs : parseMethodDescriptor y2.1.desc = some sig) : n = sig.parameters.length := by
  rw [hs] at h
  exact (Option.some.inj h).symm
theorem ma_SR_app {ad : Nat → Nat → Nat} {n : Nat → Nat} : ∀ {a b : List AV} {S : List Value}, ma_SR ad n (a ++ b) S → ∃ S1 S2, S = S1 ++ S2 ∧ ma_SR ad n a S1 ∧ ma_SR ad n b S2
  | [], _, S, h => ⟨[], S, rfl, rfl, h⟩
  | _ :: _, _, _, ⟨x, S', e, h1, h2⟩ => by
    obtain ⟨S1, S2, e2, h3, h4⟩ := ma_SR_app h2
    subst e; subst e2
    exact ⟨x :: S1, S2, rfl, ⟨x, S1, rfl, h1, h3⟩, h4⟩
theorem ma_SR_cat {ad : Nat → Nat → Nat} {n : Nat → Nat} : ∀ {a b : List AV} {S1 S2 : List Value}, ma_SR ad n a S1 → ma_SR ad n b S2 → ma_SR ad n (a ++ b) (S1 ++ S2)
  | [], _, _, _, h1, h2 => by cases h1; exact h2
  | _ :: _, _, _, _, ⟨x, S', e, h1, h3⟩, h2 => by subst e; exact ⟨x, _, rfl, h1, ma_SR_cat h3 h2⟩
theorem ma_SR_rev {ad : Nat → Nat → Nat} {n : Nat → Nat} : ∀ {a : List AV} {S : List Value}, ma_SR ad n a S → ma_SR ad n a.reverse S.reverse
  | [], _, h => by cases h; rfl
  | _ :: _, _, ⟨x, S', e, h1, h2⟩ => by
    subst e
    rw [List.reverse_cons, List.reverse_cons]
    exact ma_SR_cat (ma_SR_rev h2) ⟨x, [], rfl, h1, rfl⟩
theorem ma_SR_sum {ad : Nat → Nat → Nat} {n : Nat → Nat} : ∀ {a : List AV} {S : List Value}, ma_SR ad n a S → (S.map fun v => v.category).sum ≤ 2 * a.length
  | [], _, h => by cases h; simp
  | _ :: _, _, ⟨x, S', e, h1, h2⟩ => by
    subst e
    have := ma_SR_sum h2
    have hc : x.category ≤ 2 := by rcases lv_cat x with h | h <;> omega
    simp only [List.map_cons, List.sum_cons, List.length_cons]
    omega
section INV
variable {sc : Nat × (Nat → Int32)} {y y2 : MD} {h : AH} {p : Program} {l : Launch} {e : Env} {R : Room} {s : State} {m : MethodId} {args : Array Value} {below : List Frame} {meth : Method} {c : Code} {H : Heap} {D : va_G} {aC : Nat → ClassId} {A : Nat → Prop} {ad : Nat → Nat → Nat} {L : Array Slot} {S' As : List Value} {pc idx k i n : Nat}
theorem ma_invV (hC : ma_Cx y p l s m args meth c D aC) (hHR : ma_HR D aC A ad h H) (hk : k < 90) (hi : i < ma_n h k) (hvw : ma_VW y.1.cls idx y2 k n) (hn : As.length = n) (hd : decode y.2.1 pc = .ok (.invokevirtual idx, 3)) :
    ma_Inv p l e R s m args below meth c H y2 (F0 m pc L (As.reverse ++ .ref (ad k i) :: S')) S' (.ref (ad k i) :: As) := by
  intro T locs cells slots hT X
  obtain ⟨hx, hb, hml, hr, hown, hts, hlocks, hnm, hex, hK, hKa, hNc, hfl, hmH⟩ := id hC
  obtain ⟨hlk, hinst, ⟨q, hq, hsel⟩, hy, hpar, hcw, -, -⟩ := hvw
  obtain ⟨Ls, hm, hnd, hP, hD, h90, hcl⟩ := id hHR
  obtain ⟨q0, hq0⟩ := ma_pos hm hi
  have he := ma_ws_at (aC := aC) (ad := ad) (h := h) hq0
  rw [ma_E_obj hk] at he
  obtain ⟨cellB, hcB, hoB, hclB⟩ := va_recv hK hP hq he
  obtain ⟨mk, methM, hnamed, hmethM, hstM, habM⟩ := Cond.instanceMethod_spec (hts _ hinst)
  obtain ⟨mk', methM', cM, hn', hm', -, -, -, -, -, -, hsigM⟩ := ma_CW_spec hts hcw
  cases hnamed.symm.trans hn'
  cases hmethM.symm.trans hm'
  obtain ⟨c2, r2, m2, q1, q2, q3, q4, kP, hkP, hkPi⟩ := Cond.selects_spec (hts _ hsel)
  cases hclB.symm.trans q1
  cases (State.methodFound?_of_named hnamed hy).symm.trans q2
  cases hnamed.symm.trans q3
  have hselP : selectMethod e.platform s.vm cellB.cls mk = .method mk := by rw [Launch.admits_selectMethod X.admits]; exact q4
  obtain ⟨vm₁, X₁, hstep₁⟩ := X.invokevirtual hx hown (hts _ hlk) hnamed hmethM hstM hkP hkPi hy (a := ad k i) (cell := cellB) (by rw [hT]; exact hcB)
    (fun z h9 => by rw [h9] at hoB; cases hoB) hselP hmethM habM hkP hkPi (g := F0 m pc L (As.reverse ++ .ref (ad k i) :: S')) rfl (argsL := As) (rest := S') (hn.trans (ma_par hpar hsigM)) rfl (by rw [hb]; exact hd)
  exact ⟨vm₁, mk, X₁, hnamed, fun target h9 => hstep₁ _ h9⟩
theorem ma_invS (hC : ma_Cx y p l s m args meth c D aC) (hvw : ma_SW y.1.cls idx y2 n) (hn : As.length = n) (hd : decode y.2.1 pc = .ok (.invokestatic idx, 3)) :
    ma_Inv p l e R s m args below meth c H y2 (F0 m pc L (As.reverse ++ S')) S' As := by
  intro T locs cells slots hT X
  obtain ⟨hx, hb, hml, hr, hown, hts, hlocks, hnm, hex, hK, hKa, hNc, hfl, hmH⟩ := id hC
  obtain ⟨hlk, hst, hini, hy, hpar, hcw, -, -⟩ := hvw
  obtain ⟨mk, methM, cM, hnamed, hmethM, -, -, -, -, -, -, hsigM⟩ := ma_CW_spec hts hcw
  have hstatic : methM.isStatic = true := Cond.static_spec hnamed hmethM (hts _ hst)
  obtain ⟨kP, hkP, -⟩ := className_of_methodNamed hnamed
  have hinitP : kP.init = .initialized := Cond.initialized_spec (findClass_of_methodNamed hnamed) hkP (hts _ hini)
  obtain ⟨vm₁, X₁, hstep₁⟩ := X.invokestatic hx hown (hts _ hlk) hnamed hmethM hstatic hkP hinitP hy (g := F0 m pc L (As.reverse ++ S')) rfl (argsL := As) (rest := S') (hn.trans (ma_par hpar hsigM)) rfl (by rw [hb]; exact hd)
  exact ⟨vm₁, mk, X₁, hnamed, fun target h9 => hstep₁ _ h9⟩
theorem ma_invI {a : Addr} (hC : ma_Cx y p l s m args meth c D aC) (hvw : ma_IW y.1.cls idx y2 n) (hn : As.length = n) (hd : decode y.2.1 pc = .ok (.invokespecial idx, 3)) :
    ma_Inv p l e R s m args below meth c H y2 (F0 m pc L (As.reverse ++ .ref a :: S')) S' (.ref a :: As) := by
  intro T locs cells slots hT X
  obtain ⟨hx, hb, hml, hr, hown, hts, hlocks, hnm, hex, hK, hKa, hNc, hfl, hmH⟩ := id hC
  obtain ⟨hlk, hinst, hy1, hy, hpar, hcd, hcw, -, -⟩ := hvw
  have hcode : (Cond.code y2.1 y2.2.1 y2.2.2.1 none).before args s = true := hts _ hcd
  have hpl : e.platform.magicAccessors = ({} : Platform).magicAccessors := by rw [X.admits.platform]
  obtain ⟨mk, methM, cM, kP, vm₁, hnamed, hmethM, hcodeM, -, hlocalsM, -, hkP, -, hW₁, hstep₁⟩ := Steps.initColdArgs (e := e) X.here hx X.warmed hpl hown hy1 hy (hts _ hlk) (hts _ hinst) hcode (f := F0 m pc L (As.reverse ++ .ref a :: S')) rfl (argsL := As) (a := a) (rest := S') (fun sig h9 => hn.trans (ma_par hpar h9)) rfl (by rw [hb]; exact hd)
  exact ⟨vm₁, mk, X.noted hW₁, hnamed, fun target h9 => hstep₁ _ h9⟩
end INV
theorem Go.callV {sc : Nat × (Nat → Int32)} {cl rd rd2 : Bool} {d2 bc2 bs2 bc bs : Nat} {y : MD} {pc : Nat} {ls st stk ls2 : List AV} {h : AH} {Q : GO → AH → Prop} (cl' : Bool) (y2 : MD) (vs : List AV) {k i idx : Nat} {Q2 : GO → AH → Prop} (hd : decode y.2.1 pc = .ok (.invokevirtual idx, 3)) (hvw : ma_VW y.1.cls idx y2 k vs.length) (hk : k < 90) (hs : vs.reverse ++ vO k i :: st = stk) (hl2 : (vO k i :: vs) ++ List.replicate (y2.2.2.1 - (vs.length + 1)) vU = ls2) (hN : vs.length + 1 ≤ y2.2.2.1) (hnl : ∀ v ∈ vs, ma_nl v) (h8 : st.length ≤ 4)
    (hcl' : cl' = true → cl = true ∧ rd2 = true ∧ ∀ g h1, Q2 g h1 → h1 = h) (G2 : Go sc true rd2 d2 bc2 bs2 y2 0 ls2 [] h Q2) (kr : ∀ h1, Q2 (.inl none) h1 → Go sc cl' rd (d2 + 1) bc bs y (pc + 3) ls st h1 Q) (kv : ∀ v h1, Q2 (.inl (some v)) h1 → Go sc cl' rd (d2 + 1) bc bs y (pc + 3) ls (v :: st) h1 Q) (kt : ∀ k h1, Q2 (.inr k) h1 → ma_thr sc cl' rd (d2 + 1) bc bs y pc ls h1 Q k) : Go sc cl rd (d2 + 1) (bc + bc2) (bs + bs2) y pc ls stk h Q := by
  intro p l e R s m args below meth c H locs cells slots mc ms D aC A ad ad0 n0 L S hC hDy
  obtain ⟨hRm, hHR, hSX, hS, hA, hEx, hL, hSt, hCl⟩ := id hDy
  subst hs
  obtain ⟨S1, S2, rfl, hv1, x, S', rfl, hx1, hSt'⟩ := ma_SR_app hSt
  obtain ⟨hi, rfl⟩ := ma_ref (Or.inl hk) hx1
  have hAs : ma_SR ad (ma_n h) (vO k i :: vs) (.ref (ad k i) :: S1.reverse) := ⟨_, _, rfl, hx1, by have := ma_SR_rev hv1; rwa [List.reverse_reverse] at this⟩
  have hlen : S1.reverse.length = vs.length := by
    have := ma_SR_len hv1
    simpa using this
  have hinv := ma_invV (l := l) (e := e) (R := R) (below := below) (L := L) (S' := S') (pc := pc) hC hHR hk hi hvw hlen hd
  rw [List.reverse_reverse] at hinv
  have hsum := ma_SR_sum hSt'
  obtain ⟨-, -, -, -, -, hcw, hpl, h40⟩ := hvw
  subst hl2
  exact ma_call hC ⟨hRm, hHR, hSX, hS, hA, hEx, hL, hSt', hCl⟩ hinv hcw hpl (by simpa using hN) h40 (fun v hv => by rcases List.mem_cons.mp hv with rfl | hv; exact trivial; exact hnl v hv) hAs (by omega) hd hcl' G2 kr kv kt
theorem Go.callS {sc : Nat × (Nat → Int32)} {cl rd rd2 : Bool} {d2 bc2 bs2 bc bs : Nat} {y : MD} {pc : Nat} {ls st stk ls2 : List AV} {h : AH} {Q : GO → AH → Prop} (cl' : Bool) (y2 : MD) (vs : List AV) {idx : Nat} {Q2 : GO → AH → Prop} (hd : decode y.2.1 pc = .ok (.invokestatic idx, 3)) (hvw : ma_SW y.1.cls idx y2 vs.length) (hs : vs.reverse ++ st = stk) (hl2 : vs ++ List.replicate (y2.2.2.1 - vs.length) vU = ls2) (hN : vs.length ≤ y2.2.2.1) (hnl : ∀ v ∈ vs, ma_nl v) (h8 : st.length ≤ 4)
    (hcl' : cl' = true → cl = true ∧ rd2 = true ∧ ∀ g h1, Q2 g h1 → h1 = h) (G2 : Go sc true rd2 d2 bc2 bs2 y2 0 ls2 [] h Q2) (kr : ∀ h1, Q2 (.inl none) h1 → Go sc cl' rd (d2 + 1) bc bs y (pc + 3) ls st h1 Q) (kv : ∀ v h1, Q2 (.inl (some v)) h1 → Go sc cl' rd (d2 + 1) bc bs y (pc + 3) ls (v :: st) h1 Q) (kt : ∀ k h1, Q2 (.inr k) h1 → ma_thr sc cl' rd (d2 + 1) bc bs y pc ls h1 Q k) : Go sc cl rd (d2 + 1) (bc + bc2) (bs + bs2) y pc ls stk h Q := by
  intro p l e R s m args below meth c H locs cells slots mc ms D aC A ad ad0 n0 L S hC hDy
  obtain ⟨hRm, hHR, hSX, hS, hA, hEx, hL, hSt, hCl⟩ := id hDy
  subst hs
  obtain ⟨S1, S', rfl, hv1, hSt'⟩ := ma_SR_app hSt
  have hAs : ma_SR ad (ma_n h) vs S1.reverse := by have := ma_SR_rev hv1; rwa [List.reverse_reverse] at this
  have hlen : S1.reverse.length = vs.length := by
    have := ma_SR_len hv1
    simpa using this
  have hinv := ma_invS (l := l) (e := e) (R := R) (below := below) (H := H) (L := L) (S' := S') (pc := pc) hC hvw hlen hd
  rw [List.reverse_reverse] at hinv
  have hsum := ma_SR_sum hSt'
  obtain ⟨-, -, -, -, -, hcw, hpl, h40⟩ := hvw
  subst hl2
  exact ma_call hC ⟨hRm, hHR, hSX, hS, hA, hEx, hL, hSt', hCl⟩ hinv hcw hpl hN h40 hnl hAs (by omega) hd hcl' G2 kr kv kt
theorem Go.callI {sc : Nat × (Nat → Int32)} {cl rd rd2 : Bool} {d2 bc2 bs2 bc bs : Nat} {y : MD} {pc : Nat} {ls st stk ls2 : List AV} {h : AH} {Q : GO → AH → Prop} (cl' : Bool) (y2 : MD) (vs : List AV) {k i idx : Nat} {Q2 : GO → AH → Prop} (hd : decode y.2.1 pc = .ok (.invokespecial idx, 3)) (hvw : ma_IW y.1.cls idx y2 vs.length) (hk : k < 90) (hs : vs.reverse ++ vO k i :: st = stk) (hl2 : (vO k i :: vs) ++ List.replicate (y2.2.2.1 - (vs.length + 1)) vU = ls2) (hN : vs.length + 1 ≤ y2.2.2.1) (hnl : ∀ v ∈ vs, ma_nl v) (h8 : st.length ≤ 4)
    (hcl' : cl' = true → cl = true ∧ rd2 = true ∧ ∀ g h1, Q2 g h1 → h1 = h) (G2 : Go sc true rd2 d2 bc2 bs2 y2 0 ls2 [] h Q2) (kr : ∀ h1, Q2 (.inl none) h1 → Go sc cl' rd (d2 + 1) bc bs y (pc + 3) ls st h1 Q) (kv : ∀ v h1, Q2 (.inl (some v)) h1 → Go sc cl' rd (d2 + 1) bc bs y (pc + 3) ls (v :: st) h1 Q) (kt : ∀ k h1, Q2 (.inr k) h1 → ma_thr sc cl' rd (d2 + 1) bc bs y pc ls h1 Q k) : Go sc cl rd (d2 + 1) (bc + bc2) (bs + bs2) y pc ls stk h Q := by
  intro p l e R s m args below meth c H locs cells slots mc ms D aC A ad ad0 n0 L S hC hDy
  obtain ⟨hRm, hHR, hSX, hS, hA, hEx, hL, hSt, hCl⟩ := id hDy
  subst hs
  obtain ⟨S1, S2, rfl, hv1, x, S', rfl, hx1, hSt'⟩ := ma_SR_app hSt
  obtain ⟨hi, rfl⟩ := ma_ref (Or.inl hk) hx1
  have hAs : ma_SR ad (ma_n h) (vO k i :: vs) (.ref (ad k i) :: S1.reverse) := ⟨_, _, rfl, hx1, by have := ma_SR_rev hv1; rwa [List.reverse_reverse] at this⟩
  have hlen : S1.reverse.length = vs.length := by
    have := ma_SR_len hv1
    simpa using this
  have hinv := ma_invI (l := l) (e := e) (R := R) (below := below) (H := H) (L := L) (S' := S') (pc := pc) (a := ad k i) hC hvw hlen hd
  rw [List.reverse_reverse] at hinv
  have hsum := ma_SR_sum hSt'
  obtain ⟨-, -, -, -, -, -, hcw, hpl, h40⟩ := hvw
  subst hl2
  exact ma_call hC ⟨hRm, hHR, hSX, hS, hA, hEx, hL, hSt', hCl⟩ hinv hcw hpl (by simpa using hN) h40 (fun v hv => by rcases List.mem_cons.mp hv with rfl | hv; exact trivial; exact hnl v hv) hAs (by omega) hd hcl' G2 kr kv kt
end
section
theorem Go.mmax {sc : Nat × (Nat → Int32)} {cl rd : Bool} {d bc bs : Nat} {y : MD} {pc : Nat} {ls st : List AV} {h : AH} {Q : GO → AH → Prop} {idx : Nat} {x y' : Int32} (hd : decode y.2.1 pc = .ok (.invokestatic idx, 3)) (hw : Cond.methodLink y.1.cls idx Lib.Math.max.name ∈ maT ∧ Cond.static Lib.Math.max.name ∈ maT ∧ Cond.initialized "java/lang/Math" ∈ maT ∧ Cond.code Lib.Math.max.name Lib.Math.max.code 2 (some .int) ∈ maT) (h8 : st.length ≤ 4) (hd1 : 1 ≤ d) (kk : Go sc cl rd d bc bs y (pc + 3) ls (vI (if x < y' then y' else x) :: st) h Q) : Go sc cl rd d bc bs y pc ls (vI y' :: vI x :: st) h Q := by
  intro p l e R s m args below meth c H locs cells slots mc ms D aC A ad ad0 n0 L S hC hDy
  obtain ⟨hx, hb, hml, hr, hown, hts, hlocks, hnm, hex, hK, hKa, hNc, hfl, hmH⟩ := id hC
  obtain ⟨hRm, hHR, hSX, hS, hA, hEx, hL, hSt, hCl⟩ := id hDy
  obtain ⟨z1, S1, rfl, rfl, z2, S2, rfl, rfl, hSt⟩ := hSt
  obtain ⟨r1, r2, r3, r4, r5, r6⟩ := id hRm
  have hsum := ma_SR_sum hSt
  exact va_mmax hx hb (hml.trans hL.1.symm) hown (hts _ hw.1) (hts _ hw.2.1) (hts _ hw.2.2.1) (hts _ hw.2.2.2) (by omega) (by omega) (by omega) (by omega) hd (kk p l e R s m args below meth c H locs cells slots mc ms D aC A ad ad0 n0 L (.int (if x < y' then y' else x) :: S2) hC ⟨hRm, hHR, hSX, hS, hA, hEx, hL, ⟨_, _, rfl, rfl, hSt⟩, hCl⟩)

theorem Go.mmin {sc : Nat × (Nat → Int32)} {cl rd : Bool} {d bc bs : Nat} {y : MD} {pc : Nat} {ls st : List AV} {h : AH} {Q : GO → AH → Prop} {idx : Nat} {x y' : Int32} (hd : decode y.2.1 pc = .ok (.invokestatic idx, 3)) (hw : Cond.methodLink y.1.cls idx Lib.Math.min.name ∈ maT ∧ Cond.static Lib.Math.min.name ∈ maT ∧ Cond.initialized "java/lang/Math" ∈ maT ∧ Cond.code Lib.Math.min.name Lib.Math.min.code 2 (some .int) ∈ maT) (h8 : st.length ≤ 4) (hd1 : 1 ≤ d) (kk : Go sc cl rd d bc bs y (pc + 3) ls (vI (if y' < x then y' else x) :: st) h Q) : Go sc cl rd d bc bs y pc ls (vI y' :: vI x :: st) h Q := by
  intro p l e R s m args below meth c H locs cells slots mc ms D aC A ad ad0 n0 L S hC hDy
  obtain ⟨hx, hb, hml, hr, hown, hts, hlocks, hnm, hex, hK, hKa, hNc, hfl, hmH⟩ := id hC
  obtain ⟨hRm, hHR, hSX, hS, hA, hEx, hL, hSt, hCl⟩ := id hDy
  obtain ⟨z1, S1, rfl, rfl, z2, S2, rfl, rfl, hSt⟩ := hSt
  obtain ⟨r1, r2, r3, r4, r5, r6⟩ := id hRm
  have hsum := ma_SR_sum hSt
  exact va_mmin hx hb (hml.trans hL.1.symm) hown (hts _ hw.1) (hts _ hw.2.1) (hts _ hw.2.2.1) (hts _ hw.2.2.2) (by omega) (by omega) (by omega) (by omega) hd (kk p l e R s m args below meth c H locs cells slots mc ms D aC A ad ad0 n0 L (.int (if y' < x then y' else x) :: S2) hC ⟨hRm, hHR, hSX, hS, hA, hEx, hL, ⟨_, _, rfl, rfl, hSt⟩, hCl⟩)

/-- System.arraycopy from one int array to another -/
theorem Go.acopy {sc : Nat × (Nat → Int32)} {cl rd : Bool} {d bc bs : Nat} {y : MD} {pc : Nat} {ls st : List AV} {h : AH} {Q : GO → AH → Prop} {idx i0 i1 sp dp n : Nat} (hd : decode y.2.1 pc = .ok (.invokestatic idx, 3)) (hw : Cond.methodLink y.1.cls idx arraycopyName ∈ maT ∧ Cond.native arraycopyName ∈ maT ∧ Cond.static arraycopyName ∈ maT ∧ Cond.initialized "java/lang/System" ∈ maT) (hne : i0 ≠ i1) (h8 : st.length ≤ 4) (hd1 : 1 ≤ d) (hsp : sp < 65536) (hdp : dp < 65536) (hnn : n < 65536) (h4 : sp + n ≤ h.2.2.2.1 100 i0) (h5 : dp + n ≤ h.2.2.2.1 100 i1)
    (kk : Go sc false rd d bc bs y (pc + 3) ls st (fun k i j => if k = 100 ∧ i = i1 then va_cpy (h.1 100 i0) (h.1 100 i1) sp dp n j else h.1 k i j, h.2) Q) : Go sc cl rd d bc bs y pc ls (vI (nI n) :: vI (nI dp) :: vO 100 i1 :: vI (nI sp) :: vO 100 i0 :: st) h Q := by
  intro p l e R s m args below meth c H locs cells slots mc ms D aC A ad ad0 n0 L S hC hDy
  obtain ⟨hx, hb, hml, hr, hown, hts, hlocks, hnm, hex, hK, hKa, hNc, hfl, hmH⟩ := id hC
  obtain ⟨hRm, hHR, hSX, hS, hA, hEx, hL, hSt, hCl⟩ := id hDy
  obtain ⟨z1, S1, rfl, rfl, z2, S2, rfl, rfl, z3, S3, rfl, hv1, z4, S4, rfl, rfl, z5, S5, rfl, hv0, hSt⟩ := hSt
  obtain ⟨hi1, rfl⟩ := ma_ref (Or.inr (by omega)) hv1
  obtain ⟨hi0, rfl⟩ := ma_ref (Or.inr (by omega)) hv0
  obtain ⟨r1, r2, r3, r4, r5, r6⟩ := id hRm
  have hsum := ma_SR_sum hSt
  obtain ⟨Ls, hm, hnd, hP, hD, h90, hcl⟩ := id hHR
  obtain ⟨q0, hq0⟩ := ma_pos hm hi0
  obtain ⟨q1, hq1⟩ := ma_pos hm hi1
  have he0 := ma_ws_at (aC := aC) (ad := ad) (h := h) hq0
  have he1 := ma_ws_at (aC := aC) (ad := ad) (h := h) hq1
  rw [ma_E_arr (by omega), ma_ar_i (by omega) (by omega)] at he0 he1
  have hKt : va_K D maCl [(aC 100, .int)] s := ⟨hK.1, fun j q hq => by
    have hj : j < 1 := (List.getElem?_eq_some_iff.mp hq).1
    rw [show j = 0 by omega] at hq
    cases hq
    exact hKa _ _ rfl⟩
  have esp : (nI sp).toNatClampNeg = sp := nI_clamp (by omega)
  have edp : (nI dp).toNatClampNeg = dp := nI_clamp (by omega)
  have en : (nI n).toNatClampNeg = n := nI_clamp (by omega)
  have hset := ma_ws_set (aC := aC) (ad := ad) (h := h) (h' := (fun k i j => if k = 100 ∧ i = i1 then va_cpy (h.1 100 i0) (h.1 100 i1) sp dp n j else h.1 k i j, h.2)) (e := .inl (aC 100, h.2.2.2.1 100 i1, .inl (va_cpy (h.1 100 i0) (h.1 100 i1) sp dp n))) hnd hq1 ((ma_E_arr (by omega)).trans (by simp [ma_ar])) (by
    intro x hx
    have e1 : (fun j => if x.1 = 100 ∧ x.2 = i1 then va_cpy (h.1 100 i0) (h.1 100 i1) sp dp n j else h.1 x.1 x.2 j) = h.1 x.1 x.2 := by
      funext j
      rw [if_neg]
      rintro ⟨g1, g2⟩
      exact hx (Prod.ext g1 g2)
    have e2 : ∀ j, (if x.1 = 100 ∧ x.2 = i1 then va_cpy (h.1 100 i0) (h.1 100 i1) sp dp n j else h.1 x.1 x.2 j) = h.1 x.1 x.2 j := fun j => congrFun e1 j
    simp only [ma_E, ma_fs, ma_ar, e1, e2])
  have hcl1 : ma_cls (fun k i j => if k = 100 ∧ i = i1 then va_cpy (h.1 100 i0) (h.1 100 i1) sp dp n j else h.1 k i j, h.2) := by
    refine ⟨hcl.1, fun k i j hk => ⟨?_, (hcl.2 k i j hk).2⟩⟩
    show (if k = 100 ∧ i = i1 then _ else _) = _
    rw [if_neg]
    · exact (hcl.2 k i j hk).1
    · rintro ⟨rfl, rfl⟩
      have hk' : ma_n h 100 ≤ i := hk
      omega
  refine va_copyi (D := D) (f := h.1 100 i0) (g := h.1 100 i1) hx hb (hml.trans hL.1.symm) hown (hts _ hw.1) (hts _ hw.2.1) (hts _ hw.2.2.1) (hts _ hw.2.2.2) hKt hP hD hS q0 q1 0 0 he0 he1 rfl rfl rfl (nI_pos (by omega)) (nI_pos (by omega)) (nI_pos (by omega)) (by rw [esp, en]; exact h4) (by rw [edp, en]; exact h5) (fun i _ => rfl) (by omega) (by
    have : nativeFrameWords "java/lang/System" "arraycopy" 5 + 11 ≤ 56 := by decide +kernel
    omega) hd (fun H1 locs1 hP1 hD1 hS1 => ?_)
  rw [esp, edp, en] at hP1 hD1
  rw [hset] at hP1 hD1
  exact kk p l e R s m args below meth c H1 locs1 cells slots mc ms D aC A ad ad0 n0 L S5 hC ⟨hRm, ⟨Ls, hm, hnd, hP1, hD1, h90, hcl1⟩, hSX, hS1, hA, hEx, hL, hSt, fun h9 => nomatch h9⟩
end
section
/-! A new exception whose own constructor calls RuntimeException's by any place ix of its pool (the library's row has the place 7 alone) -/
def ma_CA (own : String) (ic : Nat) (X : String) (ix : Nat) (by6 : ByteArray) : List Cond := Bundle.throwableAtoms ++ Bundle.throwableSAtoms ++ Bundle.passSAtoms X "java/lang/RuntimeException" ix by6 ++ Bundle.chainSAtoms "java/lang/RuntimeException" ["java/lang/Exception"] ++
  [.methodLink own ic (Bundle.initS X), .instantiable X 6, .castable X X, .selects X Bundle.tFill0 Bundle.tFill0, .selects X Bundle.tFill Bundle.tFill,
   .lays X Bundle.tN "cause" "Ljava/lang/Throwable;", .lays X Bundle.tN "stackTrace" Bundle.steD, .lays X Bundle.tN "suppressedExceptions" Bundle.listD, .lays X Bundle.tN "detailMessage" "Ljava/lang/String;",
   .isRef (.static Bundle.tN "UNASSIGNED_STACK" Bundle.steD), .isRef (.static Bundle.tN "SUPPRESSED_SENTINEL" Bundle.listD),
   .fieldLink Bundle.tN 198 Bundle.tN "backtrace" "Ljava/lang/Object;", .lays Bundle.tN Bundle.tN "backtrace" "Ljava/lang/Object;", .lays X Bundle.tN "backtrace" "Ljava/lang/Object;"]
section CTOR
variable {p : Program} {l : Launch} {e : Env} {R : Room} {s : State} {m₀ : MethodId} {args : Array Value} {below : List Frame} {meth : Method} {c : Code} {T0 : State} {locs : List Loc} {cells slots : Nat}
set_option maxHeartbeats 2000000 in
theorem ma_ctor (X : Stand p l e R s m₀ args below meth c T0 locs cells slots) (hexec : p.tables.exec = Jvm.exec) (htr : e.platform.stackTraces = false) {own cls : String} {ic ix : Nat} {by6 : ByteArray} (hown : s.vm.findClass own = some m₀.cls) (hcls : Bundle.fit cls = true)
    (e0 : decode by6 0 = .ok (.aload_n 0, 1)) (e1 : decode by6 1 = .ok (.aload_n 1, 1)) (e2 : decode by6 2 = .ok (.invokespecial ix, 3)) (e5 : decode by6 5 = .ok (.return_, 1))
    (h : ∀ a ∈ ma_CA own ic cls ix by6, a.before args s = true) (hlocs : ∀ x ∈ locs, ∀ cell, s.heap[x.base]? = some cell → cell.vm.isStatics = false)
    {a : Addr} {cX : ClassId} {kX : Class} (hfX : s.vm.findClass cls = some cX) (hkX : s.vm.classes[cX]? = some kX) (hcell : T0.heap[a]? = some (freshCell cX kX)) (hnew : s.heap.size ≤ a) {msg : Value} (hmsg : msg.isRef = true)
    {g : JFrame} (hg : g.method = m₀) (hsize : g.locals.size = c.maxLocals) (hlocked : g.locked = none) (hentered : g.entered = []) {rest : List Value} (hstack : g.stack = msg :: .ref a :: .ref a :: rest)
    (hd6 : decode c.code g.pc = .ok (.invokespecial ic, 3)) (hd9 : decode c.code (g.pc + 3) = .ok (.athrow, 1)) (hout : ∀ x ∈ c.exceptionTable.toList, covers x (g.pc + 3) = false)
    (hRf : 5 < R.frames) (hRl : 2 * g.monitorRoom + ((Value.ref a :: rest).map fun v => v.category).sum + 81 ≤ R.locals) (hlocks : meth.locks = false) :
    ∃ U : State, Steps p.tables e below (T0.setTop g) U ∧ U.status = .running ∧ Ended U below (.threw a) ∧ s.WarmedH U.vm ∧ s.sameButNew ({ U with vm := s.vm } : State) locs cells slots ∧ ∃ ce : Cell, U.heap[a]? = some ce ∧ ce.cls = cX ∧ ce.vm = .none := by
  have hpl : e.platform.magicAccessors = ({} : Platform).magicAccessors := by rw [X.admits.platform]
  have hh : ∀ w, w ∈ ma_CA own ic cls ix by6 → w.holds args s none s [] = true := fun w hw => h w hw
  have hi : ∀ w, w ∈ ma_CA own ic cls ix by6 → w.before args s = true := h
  obtain ⟨T, Z0, hT, -, Y⟩ := ThrowableC.of_atoms (args := args) (pl := e.platform) (by rw [X.admits.platform]) (by rw [X.admits.platform]) hpl (fun w hw => h w (by simp [ma_CA, hw]))
  obtain ⟨Z, M, hZ, hM, hnZ⟩ := Init0T.ofS_atoms (args := args) hpl hT Y (fun w hw => h w (by simp [ma_CA, hw]))
  obtain ⟨P1, hP1, hP1m, hP1s⟩ := PassC.ofS_atoms (args := args) (s := s) hpl (X := cls) (Y := "java/lang/RuntimeException") (Bundle.fit_spec hcls).1 (by decide) e0 e1 e2 e5 (fun w hw => h w (by simp [ma_CA, hw]))
  obtain ⟨P2, Ps, hlen, hP2, hPs, hP2m, hsup, hpass⟩ := Bundle.chainS (args := args) hpl hnZ ["java/lang/Exception"] "java/lang/RuntimeException" (by decide +kernel) (by decide +kernel) (fun w hw => h w (by simp [ma_CA, hw]))
  have hlink : P1.sup = P2.m := Option.some.inj (hP1s.symm.trans hP2m)
  have hfd : s.vm.findClass cls = some P1.m.cls := findClass_of_methodNamed hP1m
  cases Option.some.inj (hfX.symm.trans hfd)
  obtain ⟨c1, kX', hc1, hk, hord, -, -, hn6⟩ := Cond.instantiable_spec (hh (.instantiable cls 6) (by simp [ma_CA]))
  cases Option.some.inj (hc1.symm.trans hfd)
  cases Option.some.inj (hkX.symm.trans hk)
  have sel : ∀ {y : MethodName} {mi : MethodId}, s.methodNamed? y = some mi → (y.cls ≠ "java/lang/invoke/MethodHandle" ∧ y.cls ≠ "java/lang/invoke/VarHandle") → Cond.selects cls y y ∈ ma_CA own ic cls ix by6 → selectMethod e.platform s.vm P1.m.cls mi = .method mi := by
    intro y mi hy hne hin
    obtain ⟨z1, z2, z3, q1, q2, q3, q4, -⟩ := Cond.selects_spec (hh _ hin)
    cases Option.some.inj (q1.symm.trans hfd)
    cases Option.some.inj (q2.symm.trans (State.methodFound?_of_named hy hne))
    cases Option.some.inj (q3.symm.trans hy)
    rw [Launch.admits_selectMethod X.admits]; exact q4
  have hsel0 := sel Y.fill0 (by decide) (by simp [ma_CA])
  have hselF := sel Y.fill (by decide) (by simp [ma_CA])
  obtain ⟨cs0, hcs0, hst⟩ := Y.statics
  obtain ⟨u0, hu0⟩ := Cond.staticRefV Y.unassigned hT.unassignedStatic hT.statics hcs0 hst (hh (.isRef (.static Bundle.tN "UNASSIGNED_STACK" Bundle.steD)) (by simp [ma_CA]))
  obtain ⟨sen, hsen⟩ := Cond.staticRefV Y.sentinel hT.sentinelStatic hT.statics hcs0 hst (hh (.isRef (.static Bundle.tN "SUPPRESSED_SENTINEL" Bundle.listD)) (by simp [ma_CA]))
  obtain ⟨cB, iB, fB, b1, b2, b3, b4, -, b5, b6, hffB⟩ := Cond.ownField (t := .object "java/lang/Object") Y.found hT.cls (by decide +kernel) (hh (.fieldLink Bundle.tN 198 Bundle.tN "backtrace" "Ljava/lang/Object;") (by simp [ma_CA])) (hh (.lays Bundle.tN Bundle.tN "backtrace" "Ljava/lang/Object;") (by simp [ma_CA])) e.platform hpl
  obtain ⟨cs, hcs, hes, -, hkeep⟩ := X.same.2.2.2.2.2 T.aS cs0 hcs0
  have hcs' : T0.heap[T.aS]? = some cs := hcs
  have hfree : ∀ i, (⟨T.aS, i⟩ : Loc) ∉ locs := fun i hm9 => by
    have := hlocs _ hm9 cs0 hcs0
    rw [hst] at this; cases this
  have hkn : cs.vm ≠ .unknown := by
    rw [hes]; intro hu
    rw [show cs0.vm = .unknown from hu] at hst
    cases hst
  have hne : T.aS ≠ a := Nat.ne_of_lt (Nat.lt_of_lt_of_le (Array.getElem?_eq_some_iff.mp hcs0).1 hnew)
  obtain ⟨iM, hffM⟩ := Y.msg
  obtain ⟨tC, dC, gC, nC⟩ := Cond.laysAt hfd hk Y.cause (hh (.lays cls Bundle.tN "cause" "Ljava/lang/Throwable;") (by simp [ma_CA]))
  obtain ⟨tS, dS, gS, nS⟩ := Cond.laysAt hfd hk Y.stack (hh (.lays cls Bundle.tN "stackTrace" Bundle.steD) (by simp [ma_CA]))
  obtain ⟨tP, dP, gP, nP⟩ := Cond.laysAt hfd hk Y.supp (hh (.lays cls Bundle.tN "suppressedExceptions" Bundle.listD) (by simp [ma_CA]))
  obtain ⟨tM, dM, gM, nM⟩ := Cond.laysAt hfd hk hffM (hh (.lays cls Bundle.tN "detailMessage" "Ljava/lang/String;") (by simp [ma_CA]))
  obtain ⟨tB, dB, gB, nB⟩ := Cond.laysAt hfd hk hffB (hh (.lays cls Bundle.tN "backtrace" "Ljava/lang/Object;") (by simp [ma_CA]))
  have bC := Cond.laysApart gB gC nB nC (by rw [b5, Y.causeName]; decide)
  have bS := Cond.laysApart gB gS nB nS (by rw [b5, Y.stackName]; decide)
  have bP := Cond.laysApart gB gP nB nP (by rw [b5, Y.suppName]; decide)
  have hskip : SkipFacts T e.platform s (fun u => u) u0 ((preparedCellV T.toThrowableT (freshCell P1.m.cls kX) a u0 sen).withEntry T0.cur) :=
    ⟨{ ci198 := cB, i198 := iB, fBack := fB }, ⟨b1, b2, b3, b4⟩, by
      have := fresh_default (c := P1.m.cls) tB
      rw [b6] at this
      simpa [preparedCellV, Cell.setSlot, Cell.withEntry, Array.getElem?_setIfInBounds, bC, bS, bP, bC.symm, bS.symm, bP.symm, defaultValue] using this, fun _ _ => rfl⟩
  obtain ⟨tm, _, _, _, vm₁, hnC, -, -, -, -, -, -, -, hW₁, st1⟩ := Steps.initColdS (tb := p.tables) (e := e) (below := below) (s := s) (U := T0) X.here hexec X.warmed hpl hown (t := Bundle.initS cls) rfl rfl (Bundle.fit_spec hcls).2 (hi (.methodLink own ic (Bundle.initS cls)) (by simp [ma_CA])) (hi (.instanceMethod (Bundle.initS cls)) (by simp [ma_CA, Bundle.passSAtoms])) (bytes := by6) (maxL := 2) (hi (.code (Bundle.initS cls) by6 2 none) (by simp [ma_CA, Bundle.passSAtoms])) (f := g) hg (a := a) (msg := msg) (rest := .ref a :: rest) hstack hd6
  cases Option.some.inj (hnC.symm.trans hP1m)
  obtain ⟨vm₂, X₂, st2⟩ := (X.noted hW₁).ctorMessageOffV hexec (g := { g with stack := .ref a :: rest }) hg hsize T hT Z hZ M hM (P1 :: P2 :: Ps)
    (fun P hP => by
      rcases List.mem_cons.mp hP with rfl | hP
      · exact hP1
      · rcases List.mem_cons.mp hP with rfl | hP
        · exact hP2
        · exact hPs P hP) ⟨hlink, hsup, hpass⟩ (u0 := u0) (sen := sen) (self := a) hmsg (cell := freshCell P1.m.cls kX) (cellS := cs)
    hcell (fun _ => by simp) (by simp) rfl rfl hsel0 hselF hcs' hne hkn (by rw [hkeep _ (hfree _)]; exact hu0) (by rw [hkeep _ (hfree _)]; exact hsen)
    (Takes.of_laid hk hord tC (by rw [Y.causeType]; rfl)) (Takes.of_laid hk hord tS (by rw [Y.stackType]; exact fits_refV_array _ u0)) (Takes.of_laid hk hord tP (by rw [Y.suppType]; exact fits_refV_object _ sen))
    (Takes.of_laid hk hord tM (by rw [Y.msgType]; exact fits_refV_object _ ⟨msg, hmsg⟩)) Y.objLocals hskip htr [] hd6 (by simp only [List.length_cons, hlen, List.length_nil]; omega) (by simp only [List.length_cons, hlen, List.length_nil]; exact hRl)
  obtain ⟨hwalk, hrun, hend, hWU, hsame⟩ := X₂.athrowLeaves hexec (g := { g with stack := .ref a :: rest, pc := g.pc + 3 }) hg hlocked hentered hout (a := a) (rest := rest) rfl hd9 hlocks
  have hlt : a < ((T0.setVm vm₁).setVm vm₂).heap.size := (Array.getElem?_eq_some_iff.mp hcell).1
  refine ⟨_, st1 _ (fun acts => by rw [doInvoke_state]; exact st2 _ hwalk), hrun, hend, hWU, hsame.weaken (fun z hz hz2 => ?_) (Nat.le_refl _) (Nat.le_refl _), _, heapAt_setCell_self (s := (T0.setVm vm₁).setVm vm₂) (plainBareV T.toThrowableT (freshCell P1.m.cls kX) a u0 sen msg) hlt, rfl, rfl⟩
  rcases List.mem_append.mp hz with h1 | h1
  · exact h1
  · have hb9 : z.base = a := by
      simp only [List.mem_cons, List.not_mem_nil, or_false] at h1
      rcases h1 with rfl | rfl | rfl | rfl | rfl <;> rfl
    rw [hb9] at hz2
    exact absurd hz2 (Nat.not_lt.mpr hnew)
end CTOR
end
