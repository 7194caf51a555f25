theorem obBk_3 : Cond.methodLink "DockBook" 3 objectInit ∈ maT ∧ Cond.instanceMethod objectInit ∈ maT ∧ Cond.code objectInit ⟨#[0xb1]⟩ 1 none ∈ maT := ⟨ma_in (by decide +kernel) rfl, ma_in (by decide +kernel) rfl, ma_in (by decide +kernel) rfl⟩
theorem fwBk_init_11 : ma_FW mBk_init 4 0 11 := ⟨RBk, TBk, rfl, by decide, iTBk, ma_in (by decide +kernel) rfl, ftBk, nmBk, Or.inr ⟨rfl, rfl, rfl⟩⟩ -- DockBook.doors
theorem fwBk_init_17 : ma_FW mBk_init 4 1 17 := ⟨RBk, TBk, rfl, by decide, iTBk, ma_in (by decide +kernel) rfl, ftBk, nmBk, Or.inr ⟨rfl, rfl, rfl⟩⟩ -- DockBook.trucks
theorem fwBk_init_21 : ma_FW mBk_init 4 2 21 := ⟨RBk, TBk, rfl, by decide, iTBk, ma_in (by decide +kernel) rfl, ftBk, nmBk, Or.inr ⟨rfl, rfl, rfl⟩⟩ -- DockBook.waiting
theorem nwBk_24 : ma_NW "DockBook" 1 24 := ⟨RCh, TCh, rfl, iTCh, ma_in (by decide +kernel) rfl, ma_in (by decide +kernel) rfl, ma_in (by decide +kernel) rfl, ftCh, dfCh⟩
theorem cwmCh_init : ma_CW mCh_init := Or.inl ⟨rfl, ma_in (by decide +kernel) rfl⟩
theorem vwBk_26 : ma_IW "DockBook" 26 mCh_init 0 := ⟨ma_in (by decide +kernel) rfl, ma_in (by decide +kernel) rfl, rfl, ⟨by decide +kernel, by decide +kernel⟩, by decide +kernel, ma_in (by decide +kernel) rfl, cwmCh_init, by decide +kernel, by decide⟩
theorem fwBk_init_27 : ma_FW mBk_init 4 3 27 := ⟨RBk, TBk, rfl, by decide, iTBk, ma_in (by decide +kernel) rfl, ftBk, nmBk, Or.inr ⟨rfl, rfl, rfl⟩⟩ -- DockBook.doorChoice
theorem fwBk_init_31 : ma_FW mBk_init 4 4 31 := ⟨RBk, TBk, rfl, by decide, iTBk, ma_in (by decide +kernel) rfl, ftBk, nmBk, Or.inl rfl⟩ -- DockBook.doorCount
theorem fwBk_init_35 : ma_FW mBk_init 4 5 35 := ⟨RBk, TBk, rfl, by decide, iTBk, ma_in (by decide +kernel) rfl, ftBk, nmBk, Or.inl rfl⟩ -- DockBook.truckCount
theorem fwBk_init_38 : ma_FW mBk_init 4 6 38 := ⟨RBk, TBk, rfl, by decide, iTBk, ma_in (by decide +kernel) rfl, ftBk, nmBk, Or.inl rfl⟩ -- DockBook.now
theorem fwBk_init_41 : ma_FW mBk_init 4 7 41 := ⟨RBk, TBk, rfl, by decide, iTBk, ma_in (by decide +kernel) rfl, ftBk, nmBk, Or.inl rfl⟩ -- DockBook.lastWasExact
theorem fwBk_init_45 : ma_FW mBk_init 4 8 45 := ⟨RBk, TBk, rfl, by decide, iTBk, ma_in (by decide +kernel) rfl, ftBk, nmBk, Or.inl rfl⟩ -- DockBook.lastMoved
theorem flBk_11 : ma_FL "DockBook" 4 0 11 := ⟨RBk, TBk, rfl, by decide, iTBk, ma_in (by decide +kernel) rfl, ftBk, nmBk⟩ -- DockBook.doors
theorem nwBk_9 : ma_NW "DockBook" 0 9 := ⟨RDo, TDo, rfl, iTDo, ma_in (by decide +kernel) rfl, ma_in (by decide +kernel) rfl, ma_in (by decide +kernel) rfl, ftDo, dfDo⟩
theorem cwmDo_init : ma_CW mDo_init := Or.inl ⟨rfl, ma_in (by decide +kernel) rfl⟩
theorem vwBk_48 : ma_JW "DockBook" 48 mDo_init 0 "DockBook" := ⟨ma_in (by decide +kernel) rfl, ma_in (by decide +kernel) rfl, rfl, ⟨by decide +kernel, by decide +kernel⟩, by decide +kernel, ma_in (by decide +kernel) rfl, cwmDo_init, by decide +kernel, by decide⟩
theorem flBk_17 : ma_FL "DockBook" 4 1 17 := ⟨RBk, TBk, rfl, by decide, iTBk, ma_in (by decide +kernel) rfl, ftBk, nmBk⟩ -- DockBook.trucks
theorem nwBk_15 : ma_NW "DockBook" 3 15 := ⟨RTr, TTr, rfl, iTTr, ma_in (by decide +kernel) rfl, ma_in (by decide +kernel) rfl, ma_in (by decide +kernel) rfl, ftTr, dfTr⟩
theorem cwmTr_init : ma_CW mTr_init := Or.inl ⟨rfl, ma_in (by decide +kernel) rfl⟩
theorem vwBk_49 : ma_IW "DockBook" 49 mTr_init 1 := ⟨ma_in (by decide +kernel) rfl, ma_in (by decide +kernel) rfl, rfl, ⟨by decide +kernel, by decide +kernel⟩, by decide +kernel, ma_in (by decide +kernel) rfl, cwmTr_init, by decide +kernel, by decide⟩
theorem flBk_21 : ma_FL "DockBook" 4 2 21 := ⟨RBk, TBk, rfl, by decide, iTBk, ma_in (by decide +kernel) rfl, ftBk, nmBk⟩ -- DockBook.waiting
theorem cwmBk_requireRange : ma_CW mBk_requireRange := Or.inl ⟨rfl, ma_in (by decide +kernel) rfl⟩
theorem vwBk_52 : ma_SW "DockBook" 52 mBk_requireRange 3 := ⟨ma_in (by decide +kernel) rfl, ma_in (by decide +kernel) rfl, ma_in (by decide +kernel) rfl, ⟨by decide +kernel, by decide +kernel⟩, by decide +kernel, cwmBk_requireRange, by decide +kernel, by decide⟩
theorem flBk_31 : ma_FL "DockBook" 4 4 31 := ⟨RBk, TBk, rfl, by decide, iTBk, ma_in (by decide +kernel) rfl, ftBk, nmBk⟩ -- DockBook.doorCount
theorem fwBk_door_63 : ma_FW mBk_door 0 0 63 := ⟨RDo, TDo, rfl, by decide, iTDo, ma_in (by decide +kernel) rfl, ftDo, nmDo, Or.inl rfl⟩ -- DockBook$Door.kinds
theorem fwBk_door_66 : ma_FW mBk_door 0 1 66 := ⟨RDo, TDo, rfl, by decide, iTDo, ma_in (by decide +kernel) rfl, ftDo, nmDo, Or.inl rfl⟩ -- DockBook$Door.from
theorem fwBk_door_69 : ma_FW mBk_door 0 2 69 := ⟨RDo, TDo, rfl, by decide, iTDo, ma_in (by decide +kernel) rfl, ftDo, nmDo, Or.inl rfl⟩ -- DockBook$Door.to
theorem fwBk_door_31 : ma_FW mBk_door 4 4 31 := ⟨RBk, TBk, rfl, by decide, iTBk, ma_in (by decide +kernel) rfl, ftBk, nmBk, Or.inl rfl⟩ -- DockBook.doorCount
theorem flBk_35 : ma_FL "DockBook" 4 5 35 := ⟨RBk, TBk, rfl, by decide, iTBk, ma_in (by decide +kernel) rfl, ftBk, nmBk⟩ -- DockBook.truckCount
theorem fwBk_truck_74 : ma_FW mBk_truck 3 1 74 := ⟨RTr, TTr, rfl, by decide, iTTr, ma_in (by decide +kernel) rfl, ftTr, nmTr, Or.inl rfl⟩ -- DockBook$Truck.kind
theorem fwBk_truck_77 : ma_FW mBk_truck 3 2 77 := ⟨RTr, TTr, rfl, by decide, iTTr, ma_in (by decide +kernel) rfl, ftTr, nmTr, Or.inl rfl⟩ -- DockBook$Truck.arrival
theorem fwBk_truck_80 : ma_FW mBk_truck 3 3 80 := ⟨RTr, TTr, rfl, by decide, iTTr, ma_in (by decide +kernel) rfl, ftTr, nmTr, Or.inl rfl⟩ -- DockBook$Truck.need
theorem fwBk_truck_83 : ma_FW mBk_truck 3 4 83 := ⟨RTr, TTr, rfl, by decide, iTTr, ma_in (by decide +kernel) rfl, ftTr, nmTr, Or.inl rfl⟩ -- DockBook$Truck.rank
theorem fwBk_truck_35 : ma_FW mBk_truck 4 5 35 := ⟨RBk, TBk, rfl, by decide, iTBk, ma_in (by decide +kernel) rfl, ftBk, nmBk, Or.inl rfl⟩ -- DockBook.truckCount
theorem cwmBk_gatherWaiting : ma_CW mBk_gatherWaiting := Or.inl ⟨rfl, ma_in (by decide +kernel) rfl⟩
theorem hvmBk_gatherWaiting : Cond.instanceMethod mBk_gatherWaiting.1 ∈ maT ∧ (∃ q, maCl[4]? = some q ∧ Cond.selects q.1 mBk_gatherWaiting.1 mBk_gatherWaiting.1 ∈ maT) := ⟨ma_in (by decide +kernel) rfl, _, rfl, ma_in (by decide +kernel) rfl⟩
theorem vwBk_86 : ma_VW "DockBook" 86 mBk_gatherWaiting 4 0 := ⟨ma_in (by decide +kernel) rfl, hvmBk_gatherWaiting.1, hvmBk_gatherWaiting.2, ⟨by decide +kernel, by decide +kernel⟩, by decide +kernel, cwmBk_gatherWaiting, by decide +kernel, by decide⟩
theorem cwmTr_rememberPlan : ma_CW mTr_rememberPlan := Or.inl ⟨rfl, ma_in (by decide +kernel) rfl⟩
theorem hvmTr_rememberPlan : Cond.instanceMethod mTr_rememberPlan.1 ∈ maT ∧ (∃ q, maCl[3]? = some q ∧ Cond.selects q.1 mTr_rememberPlan.1 mTr_rememberPlan.1 ∈ maT) := ⟨ma_in (by decide +kernel) rfl, _, rfl, ma_in (by decide +kernel) rfl⟩
theorem vwBk_90 : ma_VW "DockBook" 90 mTr_rememberPlan 3 0 := ⟨ma_in (by decide +kernel) rfl, hvmTr_rememberPlan.1, hvmTr_rememberPlan.2, ⟨by decide +kernel, by decide +kernel⟩, by decide +kernel, cwmTr_rememberPlan, by decide +kernel, by decide⟩
theorem fwBk_assign_41 : ma_FW mBk_assign 4 7 41 := ⟨RBk, TBk, rfl, by decide, iTBk, ma_in (by decide +kernel) rfl, ftBk, nmBk, Or.inl rfl⟩ -- DockBook.lastWasExact
theorem flBk_41 : ma_FL "DockBook" 4 7 41 := ⟨RBk, TBk, rfl, by decide, iTBk, ma_in (by decide +kernel) rfl, ftBk, nmBk⟩ -- DockBook.lastWasExact
theorem flBk_27 : ma_FL "DockBook" 4 3 27 := ⟨RBk, TBk, rfl, by decide, iTBk, ma_in (by decide +kernel) rfl, ftBk, nmBk⟩ -- DockBook.doorChoice
theorem flBk_38 : ma_FL "DockBook" 4 6 38 := ⟨RBk, TBk, rfl, by decide, iTBk, ma_in (by decide +kernel) rfl, ftBk, nmBk⟩ -- DockBook.now
theorem cwmCh_planExactly : ma_CW mCh_planExactly := Or.inl ⟨rfl, ma_in (by decide +kernel) rfl⟩
theorem hvmCh_planExactly : Cond.instanceMethod mCh_planExactly.1 ∈ maT ∧ (∃ q, maCl[1]? = some q ∧ Cond.selects q.1 mCh_planExactly.1 mCh_planExactly.1 ∈ maT) := ⟨ma_in (by decide +kernel) rfl, _, rfl, ma_in (by decide +kernel) rfl⟩
theorem vwBk_93 : ma_VW "DockBook" 93 mCh_planExactly 1 5 := ⟨ma_in (by decide +kernel) rfl, hvmCh_planExactly.1, hvmCh_planExactly.2, ⟨by decide +kernel, by decide +kernel⟩, by decide +kernel, cwmCh_planExactly, by decide +kernel, by decide⟩
theorem cwmBk_planByRule : ma_CW mBk_planByRule := Or.inl ⟨rfl, ma_in (by decide +kernel) rfl⟩
theorem hvmBk_planByRule : Cond.instanceMethod mBk_planByRule.1 ∈ maT ∧ (∃ q, maCl[4]? = some q ∧ Cond.selects q.1 mBk_planByRule.1 mBk_planByRule.1 ∈ maT) := ⟨ma_in (by decide +kernel) rfl, _, rfl, ma_in (by decide +kernel) rfl⟩
theorem vwBk_97 : ma_VW "DockBook" 97 mBk_planByRule 4 1 := ⟨ma_in (by decide +kernel) rfl, hvmBk_planByRule.1, hvmBk_planByRule.2, ⟨by decide +kernel, by decide +kernel⟩, by decide +kernel, cwmBk_planByRule, by decide +kernel, by decide⟩
theorem fwBk_assign_45 : ma_FW mBk_assign 4 8 45 := ⟨RBk, TBk, rfl, by decide, iTBk, ma_in (by decide +kernel) rfl, ftBk, nmBk, Or.inl rfl⟩ -- DockBook.lastMoved
theorem flBk_45 : ma_FL "DockBook" 4 8 45 := ⟨RBk, TBk, rfl, by decide, iTBk, ma_in (by decide +kernel) rfl, ftBk, nmBk⟩ -- DockBook.lastMoved
theorem cwmTr_hasMoved : ma_CW mTr_hasMoved := Or.inl ⟨rfl, ma_in (by decide +kernel) rfl⟩
theorem hvmTr_hasMoved : Cond.instanceMethod mTr_hasMoved.1 ∈ maT ∧ (∃ q, maCl[3]? = some q ∧ Cond.selects q.1 mTr_hasMoved.1 mTr_hasMoved.1 ∈ maT) := ⟨ma_in (by decide +kernel) rfl, _, rfl, ma_in (by decide +kernel) rfl⟩
theorem vwBk_100 : ma_VW "DockBook" 100 mTr_hasMoved 3 0 := ⟨ma_in (by decide +kernel) rfl, hvmTr_hasMoved.1, hvmTr_hasMoved.2, ⟨by decide +kernel, by decide +kernel⟩, by decide +kernel, cwmTr_hasMoved, by decide +kernel, by decide⟩
theorem cwmBk_planCost : ma_CW mBk_planCost := Or.inl ⟨rfl, ma_in (by decide +kernel) rfl⟩
theorem hvmBk_planCost : Cond.instanceMethod mBk_planCost.1 ∈ maT ∧ (∃ q, maCl[4]? = some q ∧ Cond.selects q.1 mBk_planCost.1 mBk_planCost.1 ∈ maT) := ⟨ma_in (by decide +kernel) rfl, _, rfl, ma_in (by decide +kernel) rfl⟩
theorem vwBk_104 : ma_VW "DockBook" 104 mBk_planCost 4 0 := ⟨ma_in (by decide +kernel) rfl, hvmBk_planCost.1, hvmBk_planCost.2, ⟨by decide +kernel, by decide +kernel⟩, by decide +kernel, cwmBk_planCost, by decide +kernel, by decide⟩
theorem flBk_107 : ma_FL "DockBook" 3 5 107 := ⟨RTr, TTr, rfl, by decide, iTTr, ma_in (by decide +kernel) rfl, ftTr, nmTr⟩ -- DockBook$Truck.state
theorem cwmBk_costAlone : ma_CW mBk_costAlone := Or.inl ⟨rfl, ma_in (by decide +kernel) rfl⟩
theorem hvmBk_costAlone : Cond.instanceMethod mBk_costAlone.1 ∈ maT ∧ (∃ q, maCl[4]? = some q ∧ Cond.selects q.1 mBk_costAlone.1 mBk_costAlone.1 ∈ maT) := ⟨ma_in (by decide +kernel) rfl, _, rfl, ma_in (by decide +kernel) rfl⟩
theorem vwBk_110 : ma_VW "DockBook" 110 mBk_costAlone 4 1 := ⟨ma_in (by decide +kernel) rfl, hvmBk_costAlone.1, hvmBk_costAlone.2, ⟨by decide +kernel, by decide +kernel⟩, by decide +kernel, cwmBk_costAlone, by decide +kernel, by decide⟩
theorem cwmBk_truckNumbered : ma_CW mBk_truckNumbered := Or.inl ⟨rfl, ma_in (by decide +kernel) rfl⟩
theorem hvmBk_truckNumbered : Cond.instanceMethod mBk_truckNumbered.1 ∈ maT ∧ (∃ q, maCl[4]? = some q ∧ Cond.selects q.1 mBk_truckNumbered.1 mBk_truckNumbered.1 ∈ maT) := ⟨ma_in (by decide +kernel) rfl, _, rfl, ma_in (by decide +kernel) rfl⟩
theorem vwBk_114 : ma_VW "DockBook" 114 mBk_truckNumbered 4 1 := ⟨ma_in (by decide +kernel) rfl, hvmBk_truckNumbered.1, hvmBk_truckNumbered.2, ⟨by decide +kernel, by decide +kernel⟩, by decide +kernel, cwmBk_truckNumbered, by decide +kernel, by decide⟩
theorem cwmBk_mayBeCalled : ma_CW mBk_mayBeCalled := Or.inl ⟨rfl, ma_in (by decide +kernel) rfl⟩
theorem hvmBk_mayBeCalled : Cond.instanceMethod mBk_mayBeCalled.1 ∈ maT ∧ (∃ q, maCl[4]? = some q ∧ Cond.selects q.1 mBk_mayBeCalled.1 mBk_mayBeCalled.1 ∈ maT) := ⟨ma_in (by decide +kernel) rfl, _, rfl, ma_in (by decide +kernel) rfl⟩
theorem vwBk_118 : ma_VW "DockBook" 118 mBk_mayBeCalled 4 1 := ⟨ma_in (by decide +kernel) rfl, hvmBk_mayBeCalled.1, hvmBk_mayBeCalled.2, ⟨by decide +kernel, by decide +kernel⟩, by decide +kernel, cwmBk_mayBeCalled, by decide +kernel, by decide⟩
theorem flBk_127 : ma_FL "DockBook" 3 6 127 := ⟨RTr, TTr, rfl, by decide, iTTr, ma_in (by decide +kernel) rfl, ftTr, nmTr⟩ -- DockBook$Truck.door
theorem cwmBk_doorNumbered : ma_CW mBk_doorNumbered := Or.inl ⟨rfl, ma_in (by decide +kernel) rfl⟩
theorem hvmBk_doorNumbered : Cond.instanceMethod mBk_doorNumbered.1 ∈ maT ∧ (∃ q, maCl[4]? = some q ∧ Cond.selects q.1 mBk_doorNumbered.1 mBk_doorNumbered.1 ∈ maT) := ⟨ma_in (by decide +kernel) rfl, _, rfl, ma_in (by decide +kernel) rfl⟩
theorem vwBk_130 : ma_VW "DockBook" 130 mBk_doorNumbered 4 1 := ⟨ma_in (by decide +kernel) rfl, hvmBk_doorNumbered.1, hvmBk_doorNumbered.2, ⟨by decide +kernel, by decide +kernel⟩, by decide +kernel, cwmBk_doorNumbered, by decide +kernel, by decide⟩
theorem fwBk_call_107 : ma_FW mBk_call 3 5 107 := ⟨RTr, TTr, rfl, by decide, iTTr, ma_in (by decide +kernel) rfl, ftTr, nmTr, Or.inl rfl⟩ -- DockBook$Truck.state
theorem fwBk_call_134 : ma_FW mBk_call 3 7 134 := ⟨RTr, TTr, rfl, by decide, iTTr, ma_in (by decide +kernel) rfl, ftTr, nmTr, Or.inl rfl⟩ -- DockBook$Truck.start
theorem fwBk_call_137 : ma_FW mBk_call 0 4 137 := ⟨RDo, TDo, rfl, by decide, iTDo, ma_in (by decide +kernel) rfl, ftDo, nmDo, Or.inl rfl⟩ -- DockBook$Door.truckAtIt
theorem flBk_80 : ma_FL "DockBook" 3 3 80 := ⟨RTr, TTr, rfl, by decide, iTTr, ma_in (by decide +kernel) rfl, ftTr, nmTr⟩ -- DockBook$Truck.need
theorem fwBk_call_140 : ma_FW mBk_call 0 5 140 := ⟨RDo, TDo, rfl, by decide, iTDo, ma_in (by decide +kernel) rfl, ftDo, nmDo, Or.inl rfl⟩ -- DockBook$Door.freeAt
theorem cwmTr_tellSeal : ma_CW mTr_tellSeal := Or.inl ⟨rfl, ma_in (by decide +kernel) rfl⟩
theorem hvmTr_tellSeal : Cond.instanceMethod mTr_tellSeal.1 ∈ maT ∧ (∃ q, maCl[3]? = some q ∧ Cond.selects q.1 mTr_tellSeal.1 mTr_tellSeal.1 ∈ maT) := ⟨ma_in (by decide +kernel) rfl, _, rfl, ma_in (by decide +kernel) rfl⟩
theorem vwBk_145 : ma_VW "DockBook" 145 mTr_tellSeal 3 1 := ⟨ma_in (by decide +kernel) rfl, hvmTr_tellSeal.1, hvmTr_tellSeal.2, ⟨by decide +kernel, by decide +kernel⟩, by decide +kernel, cwmTr_tellSeal, by decide +kernel, by decide⟩
theorem cwmBk_requireState : ma_CW mBk_requireState := Or.inl ⟨rfl, ma_in (by decide +kernel) rfl⟩
theorem vwBk_149 : ma_SW "DockBook" 149 mBk_requireState 2 := ⟨ma_in (by decide +kernel) rfl, ma_in (by decide +kernel) rfl, ma_in (by decide +kernel) rfl, ⟨by decide +kernel, by decide +kernel⟩, by decide +kernel, cwmBk_requireState, by decide +kernel, by decide⟩
theorem fwBk_load_153 : ma_FW mBk_load 3 12 153 := ⟨RTr, TTr, rfl, by decide, iTTr, ma_in (by decide +kernel) rfl, ftTr, nmTr, Or.inl rfl⟩ -- DockBook$Truck.loadIsRight
theorem flBk_153 : ma_FL "DockBook" 3 12 153 := ⟨RTr, TTr, rfl, by decide, iTTr, ma_in (by decide +kernel) rfl, ftTr, nmTr⟩ -- DockBook$Truck.loadIsRight
theorem flBk_156 : ma_FL "DockBook" 3 11 156 := ⟨RTr, TTr, rfl, by decide, iTTr, ma_in (by decide +kernel) rfl, ftTr, nmTr⟩ -- DockBook$Truck.sealIsSure
theorem flBk_134 : ma_FL "DockBook" 3 7 134 := ⟨RTr, TTr, rfl, by decide, iTTr, ma_in (by decide +kernel) rfl, ftTr, nmTr⟩ -- DockBook$Truck.start
theorem fwBk_depart_107 : ma_FW mBk_depart 3 5 107 := ⟨RTr, TTr, rfl, by decide, iTTr, ma_in (by decide +kernel) rfl, ftTr, nmTr, Or.inl rfl⟩ -- DockBook$Truck.state
theorem fwBk_depart_159 : ma_FW mBk_depart 3 13 159 := ⟨RTr, TTr, rfl, by decide, iTTr, ma_in (by decide +kernel) rfl, ftTr, nmTr, Or.inl rfl⟩ -- DockBook$Truck.departure
theorem fwBk_depart_137 : ma_FW mBk_depart 0 4 137 := ⟨RDo, TDo, rfl, by decide, iTDo, ma_in (by decide +kernel) rfl, ftDo, nmDo, Or.inl rfl⟩ -- DockBook$Door.truckAtIt
theorem fwBk_depart_140 : ma_FW mBk_depart 0 5 140 := ⟨RDo, TDo, rfl, by decide, iTDo, ma_in (by decide +kernel) rfl, ftDo, nmDo, Or.inl rfl⟩ -- DockBook$Door.freeAt
theorem flBk_162 : ma_FL "DockBook" 0 6 162 := ⟨RDo, TDo, rfl, by decide, iTDo, ma_in (by decide +kernel) rfl, ftDo, nmDo⟩ -- DockBook$Door.departed
theorem fwBk_depart_162 : ma_FW mBk_depart 0 6 162 := ⟨RDo, TDo, rfl, by decide, iTDo, ma_in (by decide +kernel) rfl, ftDo, nmDo, Or.inl rfl⟩ -- DockBook$Door.departed
theorem fwBk_late_77 : ma_FW mBk_late 3 2 77 := ⟨RTr, TTr, rfl, by decide, iTTr, ma_in (by decide +kernel) rfl, ftTr, nmTr, Or.inl rfl⟩ -- DockBook$Truck.arrival
theorem cwmTr_setPlan : ma_CW mTr_setPlan := Or.inl ⟨rfl, ma_in (by decide +kernel) rfl⟩
theorem hvmTr_setPlan : Cond.instanceMethod mTr_setPlan.1 ∈ maT ∧ (∃ q, maCl[3]? = some q ∧ Cond.selects q.1 mTr_setPlan.1 mTr_setPlan.1 ∈ maT) := ⟨ma_in (by decide +kernel) rfl, _, rfl, ma_in (by decide +kernel) rfl⟩
theorem vwBk_165 : ma_VW "DockBook" 165 mTr_setPlan 3 2 := ⟨ma_in (by decide +kernel) rfl, hvmTr_setPlan.1, hvmTr_setPlan.2, ⟨by decide +kernel, by decide +kernel⟩, by decide +kernel, cwmTr_setPlan, by decide +kernel, by decide⟩
theorem fwBk_cancel_107 : ma_FW mBk_cancel 3 5 107 := ⟨RTr, TTr, rfl, by decide, iTTr, ma_in (by decide +kernel) rfl, ftTr, nmTr, Or.inl rfl⟩ -- DockBook$Truck.state
theorem flBk_169 : ma_FL "DockBook" 0 3 169 := ⟨RDo, TDo, rfl, by decide, iTDo, ma_in (by decide +kernel) rfl, ftDo, nmDo⟩ -- DockBook$Door.isOut
theorem fwBk_out_169 : ma_FW mBk_out 0 3 169 := ⟨RDo, TDo, rfl, by decide, iTDo, ma_in (by decide +kernel) rfl, ftDo, nmDo, Or.inl rfl⟩ -- DockBook$Door.isOut
theorem cwmTr_isPlannedFor : ma_CW mTr_isPlannedFor := Or.inl ⟨rfl, ma_in (by decide +kernel) rfl⟩
theorem hvmTr_isPlannedFor : Cond.instanceMethod mTr_isPlannedFor.1 ∈ maT ∧ (∃ q, maCl[3]? = some q ∧ Cond.selects q.1 mTr_isPlannedFor.1 mTr_isPlannedFor.1 ∈ maT) := ⟨ma_in (by decide +kernel) rfl, _, rfl, ma_in (by decide +kernel) rfl⟩
theorem vwBk_174 : ma_VW "DockBook" 174 mTr_isPlannedFor 3 1 := ⟨ma_in (by decide +kernel) rfl, hvmTr_isPlannedFor.1, hvmTr_isPlannedFor.2, ⟨by decide +kernel, by decide +kernel⟩, by decide +kernel, cwmTr_isPlannedFor, by decide +kernel, by decide⟩
theorem fwBk_pass_38 : ma_FW mBk_pass 4 6 38 := ⟨RBk, TBk, rfl, by decide, iTBk, ma_in (by decide +kernel) rfl, ftBk, nmBk, Or.inl rfl⟩ -- DockBook.now
theorem cwmBk_plannedBefore : ma_CW mBk_plannedBefore := Or.inl ⟨rfl, ma_in (by decide +kernel) rfl⟩
theorem hvmBk_plannedBefore : Cond.instanceMethod mBk_plannedBefore.1 ∈ maT ∧ (∃ q, maCl[4]? = some q ∧ Cond.selects q.1 mBk_plannedBefore.1 mBk_plannedBefore.1 ∈ maT) := ⟨ma_in (by decide +kernel) rfl, _, rfl, ma_in (by decide +kernel) rfl⟩
theorem vwBk_178 : ma_VW "DockBook" 178 mBk_plannedBefore 4 1 := ⟨ma_in (by decide +kernel) rfl, hvmBk_plannedBefore.1, hvmBk_plannedBefore.2, ⟨by decide +kernel, by decide +kernel⟩, by decide +kernel, cwmBk_plannedBefore, by decide +kernel, by decide⟩
theorem flBk_77 : ma_FL "DockBook" 3 2 77 := ⟨RTr, TTr, rfl, by decide, iTTr, ma_in (by decide +kernel) rfl, ftTr, nmTr⟩ -- DockBook$Truck.arrival
theorem flBk_83 : ma_FL "DockBook" 3 4 83 := ⟨RTr, TTr, rfl, by decide, iTTr, ma_in (by decide +kernel) rfl, ftTr, nmTr⟩ -- DockBook$Truck.rank
theorem flBk_74 : ma_FL "DockBook" 3 1 74 := ⟨RTr, TTr, rfl, by decide, iTTr, ma_in (by decide +kernel) rfl, ftTr, nmTr⟩ -- DockBook$Truck.kind
theorem flBk_159 : ma_FL "DockBook" 3 13 159 := ⟨RTr, TTr, rfl, by decide, iTTr, ma_in (by decide +kernel) rfl, ftTr, nmTr⟩ -- DockBook$Truck.departure
theorem flBk_137 : ma_FL "DockBook" 0 4 137 := ⟨RDo, TDo, rfl, by decide, iTDo, ma_in (by decide +kernel) rfl, ftDo, nmDo⟩ -- DockBook$Door.truckAtIt
theorem cwmBk_plannedFor : ma_CW mBk_plannedFor := Or.inl ⟨rfl, ma_in (by decide +kernel) rfl⟩
theorem hvmBk_plannedFor : Cond.instanceMethod mBk_plannedFor.1 ∈ maT ∧ (∃ q, maCl[4]? = some q ∧ Cond.selects q.1 mBk_plannedFor.1 mBk_plannedFor.1 ∈ maT) := ⟨ma_in (by decide +kernel) rfl, _, rfl, ma_in (by decide +kernel) rfl⟩
theorem vwBk_191 : ma_VW "DockBook" 191 mBk_plannedFor 4 1 := ⟨ma_in (by decide +kernel) rfl, hvmBk_plannedFor.1, hvmBk_plannedFor.2, ⟨by decide +kernel, by decide +kernel⟩, by decide +kernel, cwmBk_plannedFor, by decide +kernel, by decide⟩
theorem flBk_63 : ma_FL "DockBook" 0 0 63 := ⟨RDo, TDo, rfl, by decide, iTDo, ma_in (by decide +kernel) rfl, ftDo, nmDo⟩ -- DockBook$Door.kinds
theorem cwmBk_trucksThatAre : ma_CW mBk_trucksThatAre := Or.inl ⟨rfl, ma_in (by decide +kernel) rfl⟩
theorem hvmBk_trucksThatAre : Cond.instanceMethod mBk_trucksThatAre.1 ∈ maT ∧ (∃ q, maCl[4]? = some q ∧ Cond.selects q.1 mBk_trucksThatAre.1 mBk_trucksThatAre.1 ∈ maT) := ⟨ma_in (by decide +kernel) rfl, _, rfl, ma_in (by decide +kernel) rfl⟩
theorem vwBk_196 : ma_VW "DockBook" 196 mBk_trucksThatAre 4 1 := ⟨ma_in (by decide +kernel) rfl, hvmBk_trucksThatAre.1, hvmBk_trucksThatAre.2, ⟨by decide +kernel, by decide +kernel⟩, by decide +kernel, cwmBk_trucksThatAre, by decide +kernel, by decide⟩
theorem flBk_207 : ma_FL "DockBook" 3 0 207 := ⟨RTr, TTr, rfl, by decide, iTTr, ma_in (by decide +kernel) rfl, ftTr, nmTr⟩ -- DockBook$Truck.number
theorem cwmTr_costAt : ma_CW mTr_costAt := Or.inl ⟨rfl, ma_in (by decide +kernel) rfl⟩
theorem hvmTr_costAt : Cond.instanceMethod mTr_costAt.1 ∈ maT ∧ (∃ q, maCl[3]? = some q ∧ Cond.selects q.1 mTr_costAt.1 mTr_costAt.1 ∈ maT) := ⟨ma_in (by decide +kernel) rfl, _, rfl, ma_in (by decide +kernel) rfl⟩
theorem vwBk_210 : ma_VW "DockBook" 210 mTr_costAt 3 1 := ⟨ma_in (by decide +kernel) rfl, hvmTr_costAt.1, hvmTr_costAt.2, ⟨by decide +kernel, by decide +kernel⟩, by decide +kernel, cwmTr_costAt, by decide +kernel, by decide⟩
theorem cwmDo_readyAt : ma_CW mDo_readyAt := Or.inl ⟨rfl, ma_in (by decide +kernel) rfl⟩
theorem hvmDo_readyAt : Cond.instanceMethod mDo_readyAt.1 ∈ maT ∧ (∃ q, maCl[0]? = some q ∧ Cond.selects q.1 mDo_readyAt.1 mDo_readyAt.1 ∈ maT) := ⟨ma_in (by decide +kernel) rfl, _, rfl, ma_in (by decide +kernel) rfl⟩
theorem vwBk_213 : ma_VW "DockBook" 213 mDo_readyAt 0 1 := ⟨ma_in (by decide +kernel) rfl, hvmDo_readyAt.1, hvmDo_readyAt.2, ⟨by decide +kernel, by decide +kernel⟩, by decide +kernel, cwmDo_readyAt, by decide +kernel, by decide⟩
theorem cwmDo_startOf : ma_CW mDo_startOf := Or.inl ⟨rfl, ma_in (by decide +kernel) rfl⟩
theorem hvmDo_startOf : Cond.instanceMethod mDo_startOf.1 ∈ maT ∧ (∃ q, maCl[0]? = some q ∧ Cond.selects q.1 mDo_startOf.1 mDo_startOf.1 ∈ maT) := ⟨ma_in (by decide +kernel) rfl, _, rfl, ma_in (by decide +kernel) rfl⟩
theorem vwBk_216 : ma_VW "DockBook" 216 mDo_startOf 0 2 := ⟨ma_in (by decide +kernel) rfl, hvmDo_startOf.1, hvmDo_startOf.2, ⟨by decide +kernel, by decide +kernel⟩, by decide +kernel, cwmDo_startOf, by decide +kernel, by decide⟩
theorem mtBk_220 : Cond.methodLink "DockBook" 220 Lib.Math.min.name ∈ maT ∧ Cond.static Lib.Math.min.name ∈ maT ∧ Cond.initialized "java/lang/Math" ∈ maT ∧ Cond.code Lib.Math.min.name Lib.Math.min.code 2 (some .int) ∈ maT := ⟨ma_in (by decide +kernel) rfl, ma_in (by decide +kernel) rfl, ma_in (by decide +kernel) rfl, ma_in (by decide +kernel) rfl⟩
theorem flBk_69 : ma_FL "DockBook" 0 2 69 := ⟨RDo, TDo, rfl, by decide, iTDo, ma_in (by decide +kernel) rfl, ftDo, nmDo⟩ -- DockBook$Door.to
theorem cwmBk_sortByRule : ma_CW mBk_sortByRule := Or.inl ⟨rfl, ma_in (by decide +kernel) rfl⟩
theorem hvmBk_sortByRule : Cond.instanceMethod mBk_sortByRule.1 ∈ maT ∧ (∃ q, maCl[4]? = some q ∧ Cond.selects q.1 mBk_sortByRule.1 mBk_sortByRule.1 ∈ maT) := ⟨ma_in (by decide +kernel) rfl, _, rfl, ma_in (by decide +kernel) rfl⟩
theorem vwBk_226 : ma_VW "DockBook" 226 mBk_sortByRule 4 1 := ⟨ma_in (by decide +kernel) rfl, hvmBk_sortByRule.1, hvmBk_sortByRule.2, ⟨by decide +kernel, by decide +kernel⟩, by decide +kernel, cwmBk_sortByRule, by decide +kernel, by decide⟩
theorem fwBk_planByRule_229 : ma_FW mBk_planByRule 0 7 229 := ⟨RDo, TDo, rfl, by decide, iTDo, ma_in (by decide +kernel) rfl, ftDo, nmDo, Or.inl rfl⟩ -- DockBook$Door.nextReady
theorem cwmBk_placeByRule : ma_CW mBk_placeByRule := Or.inl ⟨rfl, ma_in (by decide +kernel) rfl⟩
theorem hvmBk_placeByRule : Cond.instanceMethod mBk_placeByRule.1 ∈ maT ∧ (∃ q, maCl[4]? = some q ∧ Cond.selects q.1 mBk_placeByRule.1 mBk_placeByRule.1 ∈ maT) := ⟨ma_in (by decide +kernel) rfl, _, rfl, ma_in (by decide +kernel) rfl⟩
theorem vwBk_232 : ma_VW "DockBook" 232 mBk_placeByRule 4 1 := ⟨ma_in (by decide +kernel) rfl, hvmBk_placeByRule.1, hvmBk_placeByRule.2, ⟨by decide +kernel, by decide +kernel⟩, by decide +kernel, cwmBk_placeByRule, by decide +kernel, by decide⟩
theorem cwmTr_goesBefore : ma_CW mTr_goesBefore := Or.inl ⟨rfl, ma_in (by decide +kernel) rfl⟩
theorem hvmTr_goesBefore : Cond.instanceMethod mTr_goesBefore.1 ∈ maT ∧ (∃ q, maCl[3]? = some q ∧ Cond.selects q.1 mTr_goesBefore.1 mTr_goesBefore.1 ∈ maT) := ⟨ma_in (by decide +kernel) rfl, _, rfl, ma_in (by decide +kernel) rfl⟩
theorem vwBk_236 : ma_VW "DockBook" 236 mTr_goesBefore 3 1 := ⟨ma_in (by decide +kernel) rfl, hvmTr_goesBefore.1, hvmTr_goesBefore.2, ⟨by decide +kernel, by decide +kernel⟩, by decide +kernel, cwmTr_goesBefore, by decide +kernel, by decide⟩
theorem flBk_229 : ma_FL "DockBook" 0 7 229 := ⟨RDo, TDo, rfl, by decide, iTDo, ma_in (by decide +kernel) rfl, ftDo, nmDo⟩ -- DockBook$Door.nextReady
theorem fwBk_placeByRule_229 : ma_FW mBk_placeByRule 0 7 229 := ⟨RDo, TDo, rfl, by decide, iTDo, ma_in (by decide +kernel) rfl, ftDo, nmDo, Or.inl rfl⟩ -- DockBook$Door.nextReady
theorem obDo_3 : Cond.methodLink "DockBook$Door" 3 objectInit ∈ maT ∧ Cond.instanceMethod objectInit ∈ maT ∧ Cond.code objectInit ⟨#[0xb1]⟩ 1 none ∈ maT := ⟨ma_in (by decide +kernel) rfl, ma_in (by decide +kernel) rfl, ma_in (by decide +kernel) rfl⟩
theorem fwDo_init_9 : ma_FW mDo_init 0 0 9 := ⟨RDo, TDo, rfl, by decide, iTDo, ma_in (by decide +kernel) rfl, ftDo, nmDo, Or.inl rfl⟩ -- DockBook$Door.kinds
theorem fwDo_init_15 : ma_FW mDo_init 0 1 15 := ⟨RDo, TDo, rfl, by decide, iTDo, ma_in (by decide +kernel) rfl, ftDo, nmDo, Or.inl rfl⟩ -- DockBook$Door.from
theorem fwDo_init_18 : ma_FW mDo_init 0 2 18 := ⟨RDo, TDo, rfl, by decide, iTDo, ma_in (by decide +kernel) rfl, ftDo, nmDo, Or.inl rfl⟩ -- DockBook$Door.to
theorem fwDo_init_21 : ma_FW mDo_init 0 3 21 := ⟨RDo, TDo, rfl, by decide, iTDo, ma_in (by decide +kernel) rfl, ftDo, nmDo, Or.inl rfl⟩ -- DockBook$Door.isOut
theorem fwDo_init_25 : ma_FW mDo_init 0 4 25 := ⟨RDo, TDo, rfl, by decide, iTDo, ma_in (by decide +kernel) rfl, ftDo, nmDo, Or.inl rfl⟩ -- DockBook$Door.truckAtIt
theorem fwDo_init_28 : ma_FW mDo_init 0 5 28 := ⟨RDo, TDo, rfl, by decide, iTDo, ma_in (by decide +kernel) rfl, ftDo, nmDo, Or.inl rfl⟩ -- DockBook$Door.freeAt
theorem fwDo_init_31 : ma_FW mDo_init 0 6 31 := ⟨RDo, TDo, rfl, by decide, iTDo, ma_in (by decide +kernel) rfl, ftDo, nmDo, Or.inl rfl⟩ -- DockBook$Door.departed
theorem fwDo_init_34 : ma_FW mDo_init 0 7 34 := ⟨RDo, TDo, rfl, by decide, iTDo, ma_in (by decide +kernel) rfl, ftDo, nmDo, Or.inl rfl⟩ -- DockBook$Door.nextReady
theorem flDo_15 : ma_FL "DockBook$Door" 0 1 15 := ⟨RDo, TDo, rfl, by decide, iTDo, ma_in (by decide +kernel) rfl, ftDo, nmDo⟩ -- DockBook$Door.from
theorem flDo_28 : ma_FL "DockBook$Door" 0 5 28 := ⟨RDo, TDo, rfl, by decide, iTDo, ma_in (by decide +kernel) rfl, ftDo, nmDo⟩ -- DockBook$Door.freeAt
theorem mtDo_37 : Cond.methodLink "DockBook$Door" 37 Lib.Math.max.name ∈ maT ∧ Cond.static Lib.Math.max.name ∈ maT ∧ Cond.initialized "java/lang/Math" ∈ maT ∧ Cond.code Lib.Math.max.name Lib.Math.max.code 2 (some .int) ∈ maT := ⟨ma_in (by decide +kernel) rfl, ma_in (by decide +kernel) rfl, ma_in (by decide +kernel) rfl, ma_in (by decide +kernel) rfl⟩
theorem flDo_21 : ma_FL "DockBook$Door" 0 3 21 := ⟨RDo, TDo, rfl, by decide, iTDo, ma_in (by decide +kernel) rfl, ftDo, nmDo⟩ -- DockBook$Door.isOut
theorem flDo_9 : ma_FL "DockBook$Door" 0 0 9 := ⟨RDo, TDo, rfl, by decide, iTDo, ma_in (by decide +kernel) rfl, ftDo, nmDo⟩ -- DockBook$Door.kinds
theorem flDo_43 : ma_FL "DockBook$Door" 3 1 43 := ⟨RTr, TTr, rfl, by decide, iTTr, ma_in (by decide +kernel) rfl, ftTr, nmTr⟩ -- DockBook$Truck.kind
theorem flDo_48 : ma_FL "DockBook$Door" 3 2 48 := ⟨RTr, TTr, rfl, by decide, iTTr, ma_in (by decide +kernel) rfl, ftTr, nmTr⟩ -- DockBook$Truck.arrival
theorem flDo_51 : ma_FL "DockBook$Door" 3 3 51 := ⟨RTr, TTr, rfl, by decide, iTTr, ma_in (by decide +kernel) rfl, ftTr, nmTr⟩ -- DockBook$Truck.need
theorem flDo_18 : ma_FL "DockBook$Door" 0 2 18 := ⟨RDo, TDo, rfl, by decide, iTDo, ma_in (by decide +kernel) rfl, ftDo, nmDo⟩ -- DockBook$Door.to
theorem obCh_3 : Cond.methodLink "DockBook$DoorChoice" 3 objectInit ∈ maT ∧ Cond.instanceMethod objectInit ∈ maT ∧ Cond.code objectInit ⟨#[0xb1]⟩ 1 none ∈ maT := ⟨ma_in (by decide +kernel) rfl, ma_in (by decide +kernel) rfl, ma_in (by decide +kernel) rfl⟩
theorem fwCh_init_11 : ma_FW mCh_init 1 0 11 := ⟨RCh, TCh, rfl, by decide, iTCh, ma_in (by decide +kernel) rfl, ftCh, nmCh, Or.inr ⟨rfl, rfl, rfl⟩⟩ -- DockBook$DoorChoice.orders
theorem fwCh_init_17 : ma_FW mCh_init 1 1 17 := ⟨RCh, TCh, rfl, by decide, iTCh, ma_in (by decide +kernel) rfl, ftCh, nmCh, Or.inr ⟨rfl, rfl, rfl⟩⟩ -- DockBook$DoorChoice.setAtDoor
theorem fwCh_init_21 : ma_FW mCh_init 1 2 21 := ⟨RCh, TCh, rfl, by decide, iTCh, ma_in (by decide +kernel) rfl, ftCh, nmCh, Or.inr ⟨rfl, rfl, rfl⟩⟩ -- DockBook$DoorChoice.chosen
theorem fwCh_init_24 : ma_FW mCh_init 1 3 24 := ⟨RCh, TCh, rfl, by decide, iTCh, ma_in (by decide +kernel) rfl, ftCh, nmCh, Or.inr ⟨rfl, rfl, rfl⟩⟩ -- DockBook$DoorChoice.best
theorem fwCh_init_28 : ma_FW mCh_init 1 4 28 := ⟨RCh, TCh, rfl, by decide, iTCh, ma_in (by decide +kernel) rfl, ftCh, nmCh, Or.inl rfl⟩ -- DockBook$DoorChoice.bestCost
theorem flCh_11 : ma_FL "DockBook$DoorChoice" 1 0 11 := ⟨RCh, TCh, rfl, by decide, iTCh, ma_in (by decide +kernel) rfl, ftCh, nmCh⟩ -- DockBook$DoorChoice.orders
theorem nwCh_9 : ma_NW "DockBook$DoorChoice" 2 9 := ⟨ROr, TOr, rfl, iTOr, ma_in (by decide +kernel) rfl, ma_in (by decide +kernel) rfl, ma_in (by decide +kernel) rfl, ftOr, dfOr⟩
theorem cwmOr_init : ma_CW mOr_init := Or.inl ⟨rfl, ma_in (by decide +kernel) rfl⟩
theorem vwCh_32 : ma_JW "DockBook$DoorChoice" 32 mOr_init 0 "DockBook" := ⟨ma_in (by decide +kernel) rfl, ma_in (by decide +kernel) rfl, rfl, ⟨by decide +kernel, by decide +kernel⟩, by decide +kernel, ma_in (by decide +kernel) rfl, cwmOr_init, by decide +kernel, by decide⟩
theorem vwCh_33 : ma_VW "DockBook$DoorChoice" 33 mDo_readyAt 0 1 := ⟨ma_in (by decide +kernel) rfl, hvmDo_readyAt.1, hvmDo_readyAt.2, ⟨by decide +kernel, by decide +kernel⟩, by decide +kernel, cwmDo_readyAt, by decide +kernel, by decide⟩
theorem cwmOr_findAll : ma_CW mOr_findAll := Or.inl ⟨rfl, ma_in (by decide +kernel) rfl⟩
theorem hvmOr_findAll : Cond.instanceMethod mOr_findAll.1 ∈ maT ∧ (∃ q, maCl[2]? = some q ∧ Cond.selects q.1 mOr_findAll.1 mOr_findAll.1 ∈ maT) := ⟨ma_in (by decide +kernel) rfl, _, rfl, ma_in (by decide +kernel) rfl⟩
theorem vwCh_39 : ma_VW "DockBook$DoorChoice" 39 mOr_findAll 2 4 := ⟨ma_in (by decide +kernel) rfl, hvmOr_findAll.1, hvmOr_findAll.2, ⟨by decide +kernel, by decide +kernel⟩, by decide +kernel, cwmOr_findAll, by decide +kernel, by decide⟩
theorem flCh_17 : ma_FL "DockBook$DoorChoice" 1 1 17 := ⟨RCh, TCh, rfl, by decide, iTCh, ma_in (by decide +kernel) rfl, ftCh, nmCh⟩ -- DockBook$DoorChoice.setAtDoor
theorem fwCh_planExactly_28 : ma_FW mCh_planExactly 1 4 28 := ⟨RCh, TCh, rfl, by decide, iTCh, ma_in (by decide +kernel) rfl, ftCh, nmCh, Or.inl rfl⟩ -- DockBook$DoorChoice.bestCost
theorem cwmCh_choose : ma_CW mCh_choose := Or.inl ⟨rfl, ma_in (by decide +kernel) rfl⟩
theorem hvmCh_choose : Cond.instanceMethod mCh_choose.1 ∈ maT ∧ (∃ q, maCl[1]? = some q ∧ Cond.selects q.1 mCh_choose.1 mCh_choose.1 ∈ maT) := ⟨ma_in (by decide +kernel) rfl, _, rfl, ma_in (by decide +kernel) rfl⟩
theorem vwCh_43 : ma_VW "DockBook$DoorChoice" 43 mCh_choose 1 4 := ⟨ma_in (by decide +kernel) rfl, hvmCh_choose.1, hvmCh_choose.2, ⟨by decide +kernel, by decide +kernel⟩, by decide +kernel, cwmCh_choose, by decide +kernel, by decide⟩
theorem flCh_24 : ma_FL "DockBook$DoorChoice" 1 3 24 := ⟨RCh, TCh, rfl, by decide, iTCh, ma_in (by decide +kernel) rfl, ftCh, nmCh⟩ -- DockBook$DoorChoice.best
theorem cwmCh_bestSetAt : ma_CW mCh_bestSetAt := Or.inl ⟨rfl, ma_in (by decide +kernel) rfl⟩
theorem hvmCh_bestSetAt : Cond.instanceMethod mCh_bestSetAt.1 ∈ maT ∧ (∃ q, maCl[1]? = some q ∧ Cond.selects q.1 mCh_bestSetAt.1 mCh_bestSetAt.1 ∈ maT) := ⟨ma_in (by decide +kernel) rfl, _, rfl, ma_in (by decide +kernel) rfl⟩
theorem vwCh_47 : ma_VW "DockBook$DoorChoice" 47 mCh_bestSetAt 1 2 := ⟨ma_in (by decide +kernel) rfl, hvmCh_bestSetAt.1, hvmCh_bestSetAt.2, ⟨by decide +kernel, by decide +kernel⟩, by decide +kernel, cwmCh_bestSetAt, by decide +kernel, by decide⟩
theorem cwmOr_startIn : ma_CW mOr_startIn := Or.inl ⟨rfl, ma_in (by decide +kernel) rfl⟩
theorem hvmOr_startIn : Cond.instanceMethod mOr_startIn.1 ∈ maT ∧ (∃ q, maCl[2]? = some q ∧ Cond.selects q.1 mOr_startIn.1 mOr_startIn.1 ∈ maT) := ⟨ma_in (by decide +kernel) rfl, _, rfl, ma_in (by decide +kernel) rfl⟩
theorem vwCh_51 : ma_VW "DockBook$DoorChoice" 51 mOr_startIn 2 2 := ⟨ma_in (by decide +kernel) rfl, hvmOr_startIn.1, hvmOr_startIn.2, ⟨by decide +kernel, by decide +kernel⟩, by decide +kernel, cwmOr_startIn, by decide +kernel, by decide⟩
theorem vwCh_54 : ma_VW "DockBook$DoorChoice" 54 mTr_setPlan 3 2 := ⟨ma_in (by decide +kernel) rfl, hvmTr_setPlan.1, hvmTr_setPlan.2, ⟨by decide +kernel, by decide +kernel⟩, by decide +kernel, cwmTr_setPlan, by decide +kernel, by decide⟩
theorem flCh_28 : ma_FL "DockBook$DoorChoice" 1 4 28 := ⟨RCh, TCh, rfl, by decide, iTCh, ma_in (by decide +kernel) rfl, ftCh, nmCh⟩ -- DockBook$DoorChoice.bestCost
theorem fwCh_choose_28 : ma_FW mCh_choose 1 4 28 := ⟨RCh, TCh, rfl, by decide, iTCh, ma_in (by decide +kernel) rfl, ftCh, nmCh, Or.inl rfl⟩ -- DockBook$DoorChoice.bestCost
theorem flCh_21 : ma_FL "DockBook$DoorChoice" 1 2 21 := ⟨RCh, TCh, rfl, by decide, iTCh, ma_in (by decide +kernel) rfl, ftCh, nmCh⟩ -- DockBook$DoorChoice.chosen
theorem acCh_60 : Cond.methodLink "DockBook$DoorChoice" 60 arraycopyName ∈ maT ∧ Cond.native arraycopyName ∈ maT ∧ Cond.static arraycopyName ∈ maT ∧ Cond.initialized "java/lang/System" ∈ maT := ⟨ma_in (by decide +kernel) rfl, ma_in (by decide +kernel) rfl, ma_in (by decide +kernel) rfl, ma_in (by decide +kernel) rfl⟩
theorem cwmCh_chooseDoor : ma_CW mCh_chooseDoor := Or.inl ⟨rfl, ma_in (by decide +kernel) rfl⟩
theorem hvmCh_chooseDoor : Cond.instanceMethod mCh_chooseDoor.1 ∈ maT ∧ (∃ q, maCl[1]? = some q ∧ Cond.selects q.1 mCh_chooseDoor.1 mCh_chooseDoor.1 ∈ maT) := ⟨ma_in (by decide +kernel) rfl, _, rfl, ma_in (by decide +kernel) rfl⟩
theorem vwCh_66 : ma_VW "DockBook$DoorChoice" 66 mCh_chooseDoor 1 5 := ⟨ma_in (by decide +kernel) rfl, hvmCh_chooseDoor.1, hvmCh_chooseDoor.2, ⟨by decide +kernel, by decide +kernel⟩, by decide +kernel, cwmCh_chooseDoor, by decide +kernel, by decide⟩
theorem cwmCh_chooseNothing : ma_CW mCh_chooseNothing := Or.inl ⟨rfl, ma_in (by decide +kernel) rfl⟩
theorem hvmCh_chooseNothing : Cond.instanceMethod mCh_chooseNothing.1 ∈ maT ∧ (∃ q, maCl[1]? = some q ∧ Cond.selects q.1 mCh_chooseNothing.1 mCh_chooseNothing.1 ∈ maT) := ⟨ma_in (by decide +kernel) rfl, _, rfl, ma_in (by decide +kernel) rfl⟩
theorem vwCh_70 : ma_VW "DockBook$DoorChoice" 70 mCh_chooseNothing 1 4 := ⟨ma_in (by decide +kernel) rfl, hvmCh_chooseNothing.1, hvmCh_chooseNothing.2, ⟨by decide +kernel, by decide +kernel⟩, by decide +kernel, cwmCh_chooseNothing, by decide +kernel, by decide⟩
theorem flCh_73 : ma_FL "DockBook$DoorChoice" 2 0 73 := ⟨ROr, TOr, rfl, by decide, iTOr, ma_in (by decide +kernel) rfl, ftOr, nmOr⟩ -- DockBook$DoorOrders.costs
theorem obOr_3 : Cond.methodLink "DockBook$DoorOrders" 3 objectInit ∈ maT ∧ Cond.instanceMethod objectInit ∈ maT ∧ Cond.code objectInit ⟨#[0xb1]⟩ 1 none ∈ maT := ⟨ma_in (by decide +kernel) rfl, ma_in (by decide +kernel) rfl, ma_in (by decide +kernel) rfl⟩
theorem fwOr_init_9 : ma_FW mOr_init 2 0 9 := ⟨ROr, TOr, rfl, by decide, iTOr, ma_in (by decide +kernel) rfl, ftOr, nmOr, Or.inr ⟨rfl, rfl, rfl⟩⟩ -- DockBook$DoorOrders.costs
theorem fwOr_init_15 : ma_FW mOr_init 2 1 15 := ⟨ROr, TOr, rfl, by decide, iTOr, ma_in (by decide +kernel) rfl, ftOr, nmOr, Or.inr ⟨rfl, rfl, rfl⟩⟩ -- DockBook$DoorOrders.bestStarts
theorem fwOr_init_18 : ma_FW mOr_init 2 2 18 := ⟨ROr, TOr, rfl, by decide, iTOr, ma_in (by decide +kernel) rfl, ftOr, nmOr, Or.inr ⟨rfl, rfl, rfl⟩⟩ -- DockBook$DoorOrders.starts
theorem flOr_9 : ma_FL "DockBook$DoorOrders" 2 0 9 := ⟨ROr, TOr, rfl, by decide, iTOr, ma_in (by decide +kernel) rfl, ftOr, nmOr⟩ -- DockBook$DoorOrders.costs
theorem cwmOr_extend : ma_CW mOr_extend := Or.inl ⟨rfl, ma_in (by decide +kernel) rfl⟩
theorem hvmOr_extend : Cond.instanceMethod mOr_extend.1 ∈ maT ∧ (∃ q, maCl[2]? = some q ∧ Cond.selects q.1 mOr_extend.1 mOr_extend.1 ∈ maT) := ⟨ma_in (by decide +kernel) rfl, _, rfl, ma_in (by decide +kernel) rfl⟩
theorem vwOr_28 : ma_VW "DockBook$DoorOrders" 28 mOr_extend 2 6 := ⟨ma_in (by decide +kernel) rfl, hvmOr_extend.1, hvmOr_extend.2, ⟨by decide +kernel, by decide +kernel⟩, by decide +kernel, cwmOr_extend, by decide +kernel, by decide⟩
theorem flOr_15 : ma_FL "DockBook$DoorOrders" 2 1 15 := ⟨ROr, TOr, rfl, by decide, iTOr, ma_in (by decide +kernel) rfl, ftOr, nmOr⟩ -- DockBook$DoorOrders.bestStarts
theorem cwmOr_keepIfBetter : ma_CW mOr_keepIfBetter := Or.inl ⟨rfl, ma_in (by decide +kernel) rfl⟩
theorem hvmOr_keepIfBetter : Cond.instanceMethod mOr_keepIfBetter.1 ∈ maT ∧ (∃ q, maCl[2]? = some q ∧ Cond.selects q.1 mOr_keepIfBetter.1 mOr_keepIfBetter.1 ∈ maT) := ⟨ma_in (by decide +kernel) rfl, _, rfl, ma_in (by decide +kernel) rfl⟩
theorem vwOr_32 : ma_VW "DockBook$DoorOrders" 32 mOr_keepIfBetter 2 3 := ⟨ma_in (by decide +kernel) rfl, hvmOr_keepIfBetter.1, hvmOr_keepIfBetter.2, ⟨by decide +kernel, by decide +kernel⟩, by decide +kernel, cwmOr_keepIfBetter, by decide +kernel, by decide⟩
theorem cwmOr_add : ma_CW mOr_add := Or.inl ⟨rfl, ma_in (by decide +kernel) rfl⟩
theorem hvmOr_add : Cond.instanceMethod mOr_add.1 ∈ maT ∧ (∃ q, maCl[2]? = some q ∧ Cond.selects q.1 mOr_add.1 mOr_add.1 ∈ maT) := ⟨ma_in (by decide +kernel) rfl, _, rfl, ma_in (by decide +kernel) rfl⟩
theorem vwOr_36 : ma_VW "DockBook$DoorOrders" 36 mOr_add 2 7 := ⟨ma_in (by decide +kernel) rfl, hvmOr_add.1, hvmOr_add.2, ⟨by decide +kernel, by decide +kernel⟩, by decide +kernel, cwmOr_add, by decide +kernel, by decide⟩
theorem vwOr_40 : ma_VW "DockBook$DoorOrders" 40 mDo_startOf 0 2 := ⟨ma_in (by decide +kernel) rfl, hvmDo_startOf.1, hvmDo_startOf.2, ⟨by decide +kernel, by decide +kernel⟩, by decide +kernel, cwmDo_startOf, by decide +kernel, by decide⟩
theorem flOr_18 : ma_FL "DockBook$DoorOrders" 2 2 18 := ⟨ROr, TOr, rfl, by decide, iTOr, ma_in (by decide +kernel) rfl, ftOr, nmOr⟩ -- DockBook$DoorOrders.starts
theorem flOr_46 : ma_FL "DockBook$DoorOrders" 3 3 46 := ⟨RTr, TTr, rfl, by decide, iTTr, ma_in (by decide +kernel) rfl, ftTr, nmTr⟩ -- DockBook$Truck.need
theorem vwOr_52 : ma_VW "DockBook$DoorOrders" 52 mTr_costAt 3 1 := ⟨ma_in (by decide +kernel) rfl, hvmTr_costAt.1, hvmTr_costAt.2, ⟨by decide +kernel, by decide +kernel⟩, by decide +kernel, cwmTr_costAt, by decide +kernel, by decide⟩
theorem cwmOr_startsComeFirst : ma_CW mOr_startsComeFirst := Or.inl ⟨rfl, ma_in (by decide +kernel) rfl⟩
theorem hvmOr_startsComeFirst : Cond.instanceMethod mOr_startsComeFirst.1 ∈ maT ∧ (∃ q, maCl[2]? = some q ∧ Cond.selects q.1 mOr_startsComeFirst.1 mOr_startsComeFirst.1 ∈ maT) := ⟨ma_in (by decide +kernel) rfl, _, rfl, ma_in (by decide +kernel) rfl⟩
theorem vwOr_56 : ma_VW "DockBook$DoorOrders" 56 mOr_startsComeFirst 2 2 := ⟨ma_in (by decide +kernel) rfl, hvmOr_startsComeFirst.1, hvmOr_startsComeFirst.2, ⟨by decide +kernel, by decide +kernel⟩, by decide +kernel, cwmOr_startsComeFirst, by decide +kernel, by decide⟩
theorem obTr_3 : Cond.methodLink "DockBook$Truck" 3 objectInit ∈ maT ∧ Cond.instanceMethod objectInit ∈ maT ∧ Cond.code objectInit ⟨#[0xb1]⟩ 1 none ∈ maT := ⟨ma_in (by decide +kernel) rfl, ma_in (by decide +kernel) rfl, ma_in (by decide +kernel) rfl⟩
theorem fwTr_init_9 : ma_FW mTr_init 3 1 9 := ⟨RTr, TTr, rfl, by decide, iTTr, ma_in (by decide +kernel) rfl, ftTr, nmTr, Or.inl rfl⟩ -- DockBook$Truck.kind
theorem fwTr_init_15 : ma_FW mTr_init 3 2 15 := ⟨RTr, TTr, rfl, by decide, iTTr, ma_in (by decide +kernel) rfl, ftTr, nmTr, Or.inl rfl⟩ -- DockBook$Truck.arrival
theorem fwTr_init_18 : ma_FW mTr_init 3 3 18 := ⟨RTr, TTr, rfl, by decide, iTTr, ma_in (by decide +kernel) rfl, ftTr, nmTr, Or.inl rfl⟩ -- DockBook$Truck.need
theorem fwTr_init_21 : ma_FW mTr_init 3 4 21 := ⟨RTr, TTr, rfl, by decide, iTTr, ma_in (by decide +kernel) rfl, ftTr, nmTr, Or.inl rfl⟩ -- DockBook$Truck.rank
theorem fwTr_init_24 : ma_FW mTr_init 3 5 24 := ⟨RTr, TTr, rfl, by decide, iTTr, ma_in (by decide +kernel) rfl, ftTr, nmTr, Or.inl rfl⟩ -- DockBook$Truck.state
theorem fwTr_init_27 : ma_FW mTr_init 3 6 27 := ⟨RTr, TTr, rfl, by decide, iTTr, ma_in (by decide +kernel) rfl, ftTr, nmTr, Or.inl rfl⟩ -- DockBook$Truck.door
theorem fwTr_init_30 : ma_FW mTr_init 3 7 30 := ⟨RTr, TTr, rfl, by decide, iTTr, ma_in (by decide +kernel) rfl, ftTr, nmTr, Or.inl rfl⟩ -- DockBook$Truck.start
theorem fwTr_init_33 : ma_FW mTr_init 3 8 33 := ⟨RTr, TTr, rfl, by decide, iTTr, ma_in (by decide +kernel) rfl, ftTr, nmTr, Or.inl rfl⟩ -- DockBook$Truck.doorBefore
theorem fwTr_init_36 : ma_FW mTr_init 3 9 36 := ⟨RTr, TTr, rfl, by decide, iTTr, ma_in (by decide +kernel) rfl, ftTr, nmTr, Or.inl rfl⟩ -- DockBook$Truck.startBefore
theorem fwTr_init_39 : ma_FW mTr_init 3 10 39 := ⟨RTr, TTr, rfl, by decide, iTTr, ma_in (by decide +kernel) rfl, ftTr, nmTr, Or.inl rfl⟩ -- DockBook$Truck.sealTold
theorem fwTr_init_42 : ma_FW mTr_init 3 11 42 := ⟨RTr, TTr, rfl, by decide, iTTr, ma_in (by decide +kernel) rfl, ftTr, nmTr, Or.inl rfl⟩ -- DockBook$Truck.sealIsSure
theorem fwTr_init_46 : ma_FW mTr_init 3 12 46 := ⟨RTr, TTr, rfl, by decide, iTTr, ma_in (by decide +kernel) rfl, ftTr, nmTr, Or.inl rfl⟩ -- DockBook$Truck.loadIsRight
theorem fwTr_init_49 : ma_FW mTr_init 3 13 49 := ⟨RTr, TTr, rfl, by decide, iTTr, ma_in (by decide +kernel) rfl, ftTr, nmTr, Or.inl rfl⟩ -- DockBook$Truck.departure
theorem fwTr_init_52 : ma_FW mTr_init 3 0 52 := ⟨RTr, TTr, rfl, by decide, iTTr, ma_in (by decide +kernel) rfl, ftTr, nmTr, Or.inr ⟨rfl, rfl, rfl⟩⟩ -- DockBook$Truck.number
theorem fwTr_setPlan_27 : ma_FW mTr_setPlan 3 6 27 := ⟨RTr, TTr, rfl, by decide, iTTr, ma_in (by decide +kernel) rfl, ftTr, nmTr, Or.inl rfl⟩ -- DockBook$Truck.door
theorem fwTr_setPlan_30 : ma_FW mTr_setPlan 3 7 30 := ⟨RTr, TTr, rfl, by decide, iTTr, ma_in (by decide +kernel) rfl, ftTr, nmTr, Or.inl rfl⟩ -- DockBook$Truck.start
theorem flTr_27 : ma_FL "DockBook$Truck" 3 6 27 := ⟨RTr, TTr, rfl, by decide, iTTr, ma_in (by decide +kernel) rfl, ftTr, nmTr⟩ -- DockBook$Truck.door
theorem fwTr_rememberPlan_33 : ma_FW mTr_rememberPlan 3 8 33 := ⟨RTr, TTr, rfl, by decide, iTTr, ma_in (by decide +kernel) rfl, ftTr, nmTr, Or.inl rfl⟩ -- DockBook$Truck.doorBefore
theorem flTr_30 : ma_FL "DockBook$Truck" 3 7 30 := ⟨RTr, TTr, rfl, by decide, iTTr, ma_in (by decide +kernel) rfl, ftTr, nmTr⟩ -- DockBook$Truck.start
theorem fwTr_rememberPlan_36 : ma_FW mTr_rememberPlan 3 9 36 := ⟨RTr, TTr, rfl, by decide, iTTr, ma_in (by decide +kernel) rfl, ftTr, nmTr, Or.inl rfl⟩ -- DockBook$Truck.startBefore
theorem flTr_33 : ma_FL "DockBook$Truck" 3 8 33 := ⟨RTr, TTr, rfl, by decide, iTTr, ma_in (by decide +kernel) rfl, ftTr, nmTr⟩ -- DockBook$Truck.doorBefore
theorem flTr_36 : ma_FL "DockBook$Truck" 3 9 36 := ⟨RTr, TTr, rfl, by decide, iTTr, ma_in (by decide +kernel) rfl, ftTr, nmTr⟩ -- DockBook$Truck.startBefore
theorem flTr_24 : ma_FL "DockBook$Truck" 3 5 24 := ⟨RTr, TTr, rfl, by decide, iTTr, ma_in (by decide +kernel) rfl, ftTr, nmTr⟩ -- DockBook$Truck.state
theorem flTr_15 : ma_FL "DockBook$Truck" 3 2 15 := ⟨RTr, TTr, rfl, by decide, iTTr, ma_in (by decide +kernel) rfl, ftTr, nmTr⟩ -- DockBook$Truck.arrival
theorem flTr_21 : ma_FL "DockBook$Truck" 3 4 21 := ⟨RTr, TTr, rfl, by decide, iTTr, ma_in (by decide +kernel) rfl, ftTr, nmTr⟩ -- DockBook$Truck.rank
theorem flTr_52 : ma_FL "DockBook$Truck" 3 0 52 := ⟨RTr, TTr, rfl, by decide, iTTr, ma_in (by decide +kernel) rfl, ftTr, nmTr⟩ -- DockBook$Truck.number
theorem flTr_39 : ma_FL "DockBook$Truck" 3 10 39 := ⟨RTr, TTr, rfl, by decide, iTTr, ma_in (by decide +kernel) rfl, ftTr, nmTr⟩ -- DockBook$Truck.sealTold
theorem fwTr_tellSeal_39 : ma_FW mTr_tellSeal 3 10 39 := ⟨RTr, TTr, rfl, by decide, iTTr, ma_in (by decide +kernel) rfl, ftTr, nmTr, Or.inl rfl⟩ -- DockBook$Truck.sealTold
theorem fwTr_tellSeal_42 : ma_FW mTr_tellSeal 3 11 42 := ⟨RTr, TTr, rfl, by decide, iTTr, ma_in (by decide +kernel) rfl, ftTr, nmTr, Or.inl rfl⟩ -- DockBook$Truck.sealIsSure
theorem flTr_42 : ma_FL "DockBook$Truck" 3 11 42 := ⟨RTr, TTr, rfl, by decide, iTTr, ma_in (by decide +kernel) rfl, ftTr, nmTr⟩ -- DockBook$Truck.sealIsSure
