theorem obMo_1 : Cond.methodLink "DockBookModel" 1 objectInit ∈ maT ∧ Cond.instanceMethod objectInit ∈ maT ∧ Cond.code objectInit ⟨#[0xb1]⟩ 1 none ∈ maT := ⟨ma_in (by decide +kernel) rfl, ma_in (by decide +kernel) rfl, ma_in (by decide +kernel) rfl⟩
theorem fwMo_init_7 : ma_FW mMo_init 5 0 7 := ⟨RMo, TMo, rfl, by decide, iTMo, ma_in (by decide +kernel) rfl, ftMo, nmMo, Or.inl rfl⟩ -- DockBookModel.thrownCode
theorem fwMo_init_13 : ma_FW mMo_init 5 1 13 := ⟨RMo, TMo, rfl, by decide, iTMo, ma_in (by decide +kernel) rfl, ftMo, nmMo, Or.inl rfl⟩ -- DockBookModel.now
theorem fwMo_init_16 : ma_FW mMo_init 5 2 16 := ⟨RMo, TMo, rfl, by decide, iTMo, ma_in (by decide +kernel) rfl, ftMo, nmMo, Or.inl rfl⟩ -- DockBookModel.doors
theorem fwMo_init_19 : ma_FW mMo_init 5 3 19 := ⟨RMo, TMo, rfl, by decide, iTMo, ma_in (by decide +kernel) rfl, ftMo, nmMo, Or.inr ⟨rfl, rfl, rfl⟩⟩ -- DockBookModel.kinds
theorem fwMo_init_23 : ma_FW mMo_init 5 4 23 := ⟨RMo, TMo, rfl, by decide, iTMo, ma_in (by decide +kernel) rfl, ftMo, nmMo, Or.inr ⟨rfl, rfl, rfl⟩⟩ -- DockBookModel.opens
theorem fwMo_init_26 : ma_FW mMo_init 5 5 26 := ⟨RMo, TMo, rfl, by decide, iTMo, ma_in (by decide +kernel) rfl, ftMo, nmMo, Or.inr ⟨rfl, rfl, rfl⟩⟩ -- DockBookModel.closes
theorem fwMo_init_29 : ma_FW mMo_init 5 6 29 := ⟨RMo, TMo, rfl, by decide, iTMo, ma_in (by decide +kernel) rfl, ftMo, nmMo, Or.inr ⟨rfl, rfl, rfl⟩⟩ -- DockBookModel.isOut
theorem fwMo_init_33 : ma_FW mMo_init 5 7 33 := ⟨RMo, TMo, rfl, by decide, iTMo, ma_in (by decide +kernel) rfl, ftMo, nmMo, Or.inr ⟨rfl, rfl, rfl⟩⟩ -- DockBookModel.left
theorem fwMo_init_36 : ma_FW mMo_init 5 8 36 := ⟨RMo, TMo, rfl, by decide, iTMo, ma_in (by decide +kernel) rfl, ftMo, nmMo, Or.inl rfl⟩ -- DockBookModel.trucks
theorem fwMo_init_39 : ma_FW mMo_init 5 9 39 := ⟨RMo, TMo, rfl, by decide, iTMo, ma_in (by decide +kernel) rfl, ftMo, nmMo, Or.inr ⟨rfl, rfl, rfl⟩⟩ -- DockBookModel.state
theorem fwMo_init_42 : ma_FW mMo_init 5 10 42 := ⟨RMo, TMo, rfl, by decide, iTMo, ma_in (by decide +kernel) rfl, ftMo, nmMo, Or.inr ⟨rfl, rfl, rfl⟩⟩ -- DockBookModel.kind
theorem fwMo_init_45 : ma_FW mMo_init 5 11 45 := ⟨RMo, TMo, rfl, by decide, iTMo, ma_in (by decide +kernel) rfl, ftMo, nmMo, Or.inr ⟨rfl, rfl, rfl⟩⟩ -- DockBookModel.arrival
theorem fwMo_init_48 : ma_FW mMo_init 5 12 48 := ⟨RMo, TMo, rfl, by decide, iTMo, ma_in (by decide +kernel) rfl, ftMo, nmMo, Or.inr ⟨rfl, rfl, rfl⟩⟩ -- DockBookModel.need
theorem fwMo_init_51 : ma_FW mMo_init 5 13 51 := ⟨RMo, TMo, rfl, by decide, iTMo, ma_in (by decide +kernel) rfl, ftMo, nmMo, Or.inr ⟨rfl, rfl, rfl⟩⟩ -- DockBookModel.ranks
theorem fwMo_init_54 : ma_FW mMo_init 5 14 54 := ⟨RMo, TMo, rfl, by decide, iTMo, ma_in (by decide +kernel) rfl, ftMo, nmMo, Or.inr ⟨rfl, rfl, rfl⟩⟩ -- DockBookModel.doorOf
theorem fwMo_init_57 : ma_FW mMo_init 5 15 57 := ⟨RMo, TMo, rfl, by decide, iTMo, ma_in (by decide +kernel) rfl, ftMo, nmMo, Or.inr ⟨rfl, rfl, rfl⟩⟩ -- DockBookModel.start
theorem fwMo_init_60 : ma_FW mMo_init 5 16 60 := ⟨RMo, TMo, rfl, by decide, iTMo, ma_in (by decide +kernel) rfl, ftMo, nmMo, Or.inr ⟨rfl, rfl, rfl⟩⟩ -- DockBookModel.gone
theorem fwMo_init_63 : ma_FW mMo_init 5 17 63 := ⟨RMo, TMo, rfl, by decide, iTMo, ma_in (by decide +kernel) rfl, ftMo, nmMo, Or.inr ⟨rfl, rfl, rfl⟩⟩ -- DockBookModel.seals
theorem fwMo_init_66 : ma_FW mMo_init 5 18 66 := ⟨RMo, TMo, rfl, by decide, iTMo, ma_in (by decide +kernel) rfl, ftMo, nmMo, Or.inr ⟨rfl, rfl, rfl⟩⟩ -- DockBookModel.twice
theorem fwMo_init_69 : ma_FW mMo_init 5 19 69 := ⟨RMo, TMo, rfl, by decide, iTMo, ma_in (by decide +kernel) rfl, ftMo, nmMo, Or.inr ⟨rfl, rfl, rfl⟩⟩ -- DockBookModel.same
theorem fwMo_init_72 : ma_FW mMo_init 5 20 72 := ⟨RMo, TMo, rfl, by decide, iTMo, ma_in (by decide +kernel) rfl, ftMo, nmMo, Or.inl rfl⟩ -- DockBookModel.wasExact
theorem fwMo_init_76 : ma_FW mMo_init 5 21 76 := ⟨RMo, TMo, rfl, by decide, iTMo, ma_in (by decide +kernel) rfl, ftMo, nmMo, Or.inl rfl⟩ -- DockBookModel.movedNow
theorem fwMo_init_79 : ma_FW mMo_init 5 22 79 := ⟨RMo, TMo, rfl, by decide, iTMo, ma_in (by decide +kernel) rfl, ftMo, nmMo, Or.inl rfl⟩ -- DockBookModel.waits
theorem fwMo_init_82 : ma_FW mMo_init 5 23 82 := ⟨RMo, TMo, rfl, by decide, iTMo, ma_in (by decide +kernel) rfl, ftMo, nmMo, Or.inr ⟨rfl, rfl, rfl⟩⟩ -- DockBookModel.waiting
theorem fwMo_init_85 : ma_FW mMo_init 5 24 85 := ⟨RMo, TMo, rfl, by decide, iTMo, ma_in (by decide +kernel) rfl, ftMo, nmMo, Or.inr ⟨rfl, rfl, rfl⟩⟩ -- DockBookModel.newDoor
theorem fwMo_init_88 : ma_FW mMo_init 5 25 88 := ⟨RMo, TMo, rfl, by decide, iTMo, ma_in (by decide +kernel) rfl, ftMo, nmMo, Or.inr ⟨rfl, rfl, rfl⟩⟩ -- DockBookModel.newStart
theorem fwMo_init_91 : ma_FW mMo_init 5 26 91 := ⟨RMo, TMo, rfl, by decide, iTMo, ma_in (by decide +kernel) rfl, ftMo, nmMo, Or.inr ⟨rfl, rfl, rfl⟩⟩ -- DockBookModel.setCost
theorem fwMo_init_94 : ma_FW mMo_init 5 27 94 := ⟨RMo, TMo, rfl, by decide, iTMo, ma_in (by decide +kernel) rfl, ftMo, nmMo, Or.inr ⟨rfl, rfl, rfl⟩⟩ -- DockBookModel.setStart
theorem fwMo_init_97 : ma_FW mMo_init 5 28 97 := ⟨RMo, TMo, rfl, by decide, iTMo, ma_in (by decide +kernel) rfl, ftMo, nmMo, Or.inr ⟨rfl, rfl, rfl⟩⟩ -- DockBookModel.trial
theorem fwMo_init_100 : ma_FW mMo_init 5 29 100 := ⟨RMo, TMo, rfl, by decide, iTMo, ma_in (by decide +kernel) rfl, ftMo, nmMo, Or.inr ⟨rfl, rfl, rfl⟩⟩ -- DockBookModel.counts
theorem fwMo_findWaiting_79 : ma_FW mMo_findWaiting 5 22 79 := ⟨RMo, TMo, rfl, by decide, iTMo, ma_in (by decide +kernel) rfl, ftMo, nmMo, Or.inl rfl⟩ -- DockBookModel.waits
theorem flMo_36 : ma_FL "DockBookModel" 5 8 36 := ⟨RMo, TMo, rfl, by decide, iTMo, ma_in (by decide +kernel) rfl, ftMo, nmMo⟩ -- DockBookModel.trucks
theorem flMo_39 : ma_FL "DockBookModel" 5 9 39 := ⟨RMo, TMo, rfl, by decide, iTMo, ma_in (by decide +kernel) rfl, ftMo, nmMo⟩ -- DockBookModel.state
theorem flMo_82 : ma_FL "DockBookModel" 5 23 82 := ⟨RMo, TMo, rfl, by decide, iTMo, ma_in (by decide +kernel) rfl, ftMo, nmMo⟩ -- DockBookModel.waiting
theorem flMo_79 : ma_FL "DockBookModel" 5 22 79 := ⟨RMo, TMo, rfl, by decide, iTMo, ma_in (by decide +kernel) rfl, ftMo, nmMo⟩ -- DockBookModel.waits
theorem flMo_54 : ma_FL "DockBookModel" 5 14 54 := ⟨RMo, TMo, rfl, by decide, iTMo, ma_in (by decide +kernel) rfl, ftMo, nmMo⟩ -- DockBookModel.doorOf
theorem cwmMo_at : ma_CW mMo_at := Or.inl ⟨rfl, ma_in (by decide +kernel) rfl⟩
theorem hvmMo_at : Cond.instanceMethod mMo_at.1 ∈ maT ∧ (∃ q, maCl[5]? = some q ∧ Cond.selects q.1 mMo_at.1 mMo_at.1 ∈ maT) := ⟨ma_in (by decide +kernel) rfl, _, rfl, ma_in (by decide +kernel) rfl⟩
theorem vwMo_103 : ma_VW "DockBookModel" 103 mMo_at 5 1 := ⟨ma_in (by decide +kernel) rfl, hvmMo_at.1, hvmMo_at.2, ⟨by decide +kernel, by decide +kernel⟩, by decide +kernel, cwmMo_at, by decide +kernel, by decide⟩
theorem flMo_57 : ma_FL "DockBookModel" 5 15 57 := ⟨RMo, TMo, rfl, by decide, iTMo, ma_in (by decide +kernel) rfl, ftMo, nmMo⟩ -- DockBookModel.start
theorem flMo_48 : ma_FL "DockBookModel" 5 12 48 := ⟨RMo, TMo, rfl, by decide, iTMo, ma_in (by decide +kernel) rfl, ftMo, nmMo⟩ -- DockBookModel.need
theorem flMo_13 : ma_FL "DockBookModel" 5 1 13 := ⟨RMo, TMo, rfl, by decide, iTMo, ma_in (by decide +kernel) rfl, ftMo, nmMo⟩ -- DockBookModel.now
theorem flMo_29 : ma_FL "DockBookModel" 5 6 29 := ⟨RMo, TMo, rfl, by decide, iTMo, ma_in (by decide +kernel) rfl, ftMo, nmMo⟩ -- DockBookModel.isOut
theorem flMo_19 : ma_FL "DockBookModel" 5 3 19 := ⟨RMo, TMo, rfl, by decide, iTMo, ma_in (by decide +kernel) rfl, ftMo, nmMo⟩ -- DockBookModel.kinds
theorem flMo_42 : ma_FL "DockBookModel" 5 10 42 := ⟨RMo, TMo, rfl, by decide, iTMo, ma_in (by decide +kernel) rfl, ftMo, nmMo⟩ -- DockBookModel.kind
theorem flMo_45 : ma_FL "DockBookModel" 5 11 45 := ⟨RMo, TMo, rfl, by decide, iTMo, ma_in (by decide +kernel) rfl, ftMo, nmMo⟩ -- DockBookModel.arrival
theorem flMo_23 : ma_FL "DockBookModel" 5 4 23 := ⟨RMo, TMo, rfl, by decide, iTMo, ma_in (by decide +kernel) rfl, ftMo, nmMo⟩ -- DockBookModel.opens
theorem flMo_26 : ma_FL "DockBookModel" 5 5 26 := ⟨RMo, TMo, rfl, by decide, iTMo, ma_in (by decide +kernel) rfl, ftMo, nmMo⟩ -- DockBookModel.closes
theorem cwmMo_freeFrom : ma_CW mMo_freeFrom := Or.inl ⟨rfl, ma_in (by decide +kernel) rfl⟩
theorem hvmMo_freeFrom : Cond.instanceMethod mMo_freeFrom.1 ∈ maT ∧ (∃ q, maCl[5]? = some q ∧ Cond.selects q.1 mMo_freeFrom.1 mMo_freeFrom.1 ∈ maT) := ⟨ma_in (by decide +kernel) rfl, _, rfl, ma_in (by decide +kernel) rfl⟩
theorem vwMo_107 : ma_VW "DockBookModel" 107 mMo_freeFrom 5 1 := ⟨ma_in (by decide +kernel) rfl, hvmMo_freeFrom.1, hvmMo_freeFrom.2, ⟨by decide +kernel, by decide +kernel⟩, by decide +kernel, cwmMo_freeFrom, by decide +kernel, by decide⟩
theorem cwmMo_startAt : ma_CW mMo_startAt := Or.inl ⟨rfl, ma_in (by decide +kernel) rfl⟩
theorem hvmMo_startAt : Cond.instanceMethod mMo_startAt.1 ∈ maT ∧ (∃ q, maCl[5]? = some q ∧ Cond.selects q.1 mMo_startAt.1 mMo_startAt.1 ∈ maT) := ⟨ma_in (by decide +kernel) rfl, _, rfl, ma_in (by decide +kernel) rfl⟩
theorem vwMo_110 : ma_VW "DockBookModel" 110 mMo_startAt 5 3 := ⟨ma_in (by decide +kernel) rfl, hvmMo_startAt.1, hvmMo_startAt.2, ⟨by decide +kernel, by decide +kernel⟩, by decide +kernel, cwmMo_startAt, by decide +kernel, by decide⟩
theorem flMo_97 : ma_FL "DockBookModel" 5 28 97 := ⟨RMo, TMo, rfl, by decide, iTMo, ma_in (by decide +kernel) rfl, ftMo, nmMo⟩ -- DockBookModel.trial
theorem flMo_91 : ma_FL "DockBookModel" 5 26 91 := ⟨RMo, TMo, rfl, by decide, iTMo, ma_in (by decide +kernel) rfl, ftMo, nmMo⟩ -- DockBookModel.setCost
theorem cwmMo_inOrder : ma_CW mMo_inOrder := Or.inl ⟨rfl, ma_in (by decide +kernel) rfl⟩
theorem hvmMo_inOrder : Cond.instanceMethod mMo_inOrder.1 ∈ maT ∧ (∃ q, maCl[5]? = some q ∧ Cond.selects q.1 mMo_inOrder.1 mMo_inOrder.1 ∈ maT) := ⟨ma_in (by decide +kernel) rfl, _, rfl, ma_in (by decide +kernel) rfl⟩
theorem vwMo_114 : ma_VW "DockBookModel" 114 mMo_inOrder 5 3 := ⟨ma_in (by decide +kernel) rfl, hvmMo_inOrder.1, hvmMo_inOrder.2, ⟨by decide +kernel, by decide +kernel⟩, by decide +kernel, cwmMo_inOrder, by decide +kernel, by decide⟩
theorem flMo_94 : ma_FL "DockBookModel" 5 27 94 := ⟨RMo, TMo, rfl, by decide, iTMo, ma_in (by decide +kernel) rfl, ftMo, nmMo⟩ -- DockBookModel.setStart
theorem flMo_16 : ma_FL "DockBookModel" 5 2 16 := ⟨RMo, TMo, rfl, by decide, iTMo, ma_in (by decide +kernel) rfl, ftMo, nmMo⟩ -- DockBookModel.doors
theorem cwmMo_findSet : ma_CW mMo_findSet := Or.inl ⟨rfl, ma_in (by decide +kernel) rfl⟩
theorem hvmMo_findSet : Cond.instanceMethod mMo_findSet.1 ∈ maT ∧ (∃ q, maCl[5]? = some q ∧ Cond.selects q.1 mMo_findSet.1 mMo_findSet.1 ∈ maT) := ⟨ma_in (by decide +kernel) rfl, _, rfl, ma_in (by decide +kernel) rfl⟩
theorem vwMo_117 : ma_VW "DockBookModel" 117 mMo_findSet 5 2 := ⟨ma_in (by decide +kernel) rfl, hvmMo_findSet.1, hvmMo_findSet.2, ⟨by decide +kernel, by decide +kernel⟩, by decide +kernel, cwmMo_findSet, by decide +kernel, by decide⟩
theorem cwmMo_costOf : ma_CW mMo_costOf := Or.inl ⟨rfl, ma_in (by decide +kernel) rfl⟩
theorem hvmMo_costOf : Cond.instanceMethod mMo_costOf.1 ∈ maT ∧ (∃ q, maCl[5]? = some q ∧ Cond.selects q.1 mMo_costOf.1 mMo_costOf.1 ∈ maT) := ⟨ma_in (by decide +kernel) rfl, _, rfl, ma_in (by decide +kernel) rfl⟩
theorem vwMo_121 : ma_VW "DockBookModel" 121 mMo_costOf 5 1 := ⟨ma_in (by decide +kernel) rfl, hvmMo_costOf.1, hvmMo_costOf.2, ⟨by decide +kernel, by decide +kernel⟩, by decide +kernel, cwmMo_costOf, by decide +kernel, by decide⟩
theorem flMo_85 : ma_FL "DockBookModel" 5 24 85 := ⟨RMo, TMo, rfl, by decide, iTMo, ma_in (by decide +kernel) rfl, ftMo, nmMo⟩ -- DockBookModel.newDoor
theorem flMo_88 : ma_FL "DockBookModel" 5 25 88 := ⟨RMo, TMo, rfl, by decide, iTMo, ma_in (by decide +kernel) rfl, ftMo, nmMo⟩ -- DockBookModel.newStart
theorem cwmMo_setOf : ma_CW mMo_setOf := Or.inl ⟨rfl, ma_in (by decide +kernel) rfl⟩
theorem hvmMo_setOf : Cond.instanceMethod mMo_setOf.1 ∈ maT ∧ (∃ q, maCl[5]? = some q ∧ Cond.selects q.1 mMo_setOf.1 mMo_setOf.1 ∈ maT) := ⟨ma_in (by decide +kernel) rfl, _, rfl, ma_in (by decide +kernel) rfl⟩
theorem vwMo_124 : ma_VW "DockBookModel" 124 mMo_setOf 5 1 := ⟨ma_in (by decide +kernel) rfl, hvmMo_setOf.1, hvmMo_setOf.2, ⟨by decide +kernel, by decide +kernel⟩, by decide +kernel, cwmMo_setOf, by decide +kernel, by decide⟩
theorem flMo_51 : ma_FL "DockBookModel" 5 13 51 := ⟨RMo, TMo, rfl, by decide, iTMo, ma_in (by decide +kernel) rfl, ftMo, nmMo⟩ -- DockBookModel.ranks
theorem cwmMo_ahead : ma_CW mMo_ahead := Or.inl ⟨rfl, ma_in (by decide +kernel) rfl⟩
theorem hvmMo_ahead : Cond.instanceMethod mMo_ahead.1 ∈ maT ∧ (∃ q, maCl[5]? = some q ∧ Cond.selects q.1 mMo_ahead.1 mMo_ahead.1 ∈ maT) := ⟨ma_in (by decide +kernel) rfl, _, rfl, ma_in (by decide +kernel) rfl⟩
theorem vwMo_127 : ma_VW "DockBookModel" 127 mMo_ahead 5 2 := ⟨ma_in (by decide +kernel) rfl, hvmMo_ahead.1, hvmMo_ahead.2, ⟨by decide +kernel, by decide +kernel⟩, by decide +kernel, cwmMo_ahead, by decide +kernel, by decide⟩
theorem flMo_7 : ma_FL "DockBookModel" 5 0 7 := ⟨RMo, TMo, rfl, by decide, iTMo, ma_in (by decide +kernel) rfl, ftMo, nmMo⟩ -- DockBookModel.thrownCode
theorem cwmMo_not : ma_CW mMo_not := Or.inl ⟨rfl, ma_in (by decide +kernel) rfl⟩
theorem vwMo_131 : ma_SW "DockBookModel" 131 mMo_not 3 := ⟨ma_in (by decide +kernel) rfl, ma_in (by decide +kernel) rfl, ma_in (by decide +kernel) rfl, ⟨by decide +kernel, by decide +kernel⟩, by decide +kernel, cwmMo_not, by decide +kernel, by decide⟩
theorem fwMo_door_7 : ma_FW mMo_door 5 0 7 := ⟨RMo, TMo, rfl, by decide, iTMo, ma_in (by decide +kernel) rfl, ftMo, nmMo, Or.inl rfl⟩ -- DockBookModel.thrownCode
theorem fwMo_door_16 : ma_FW mMo_door 5 2 16 := ⟨RMo, TMo, rfl, by decide, iTMo, ma_in (by decide +kernel) rfl, ftMo, nmMo, Or.inl rfl⟩ -- DockBookModel.doors
theorem fwMo_truck_7 : ma_FW mMo_truck 5 0 7 := ⟨RMo, TMo, rfl, by decide, iTMo, ma_in (by decide +kernel) rfl, ftMo, nmMo, Or.inl rfl⟩ -- DockBookModel.thrownCode
theorem flMo_63 : ma_FL "DockBookModel" 5 17 63 := ⟨RMo, TMo, rfl, by decide, iTMo, ma_in (by decide +kernel) rfl, ftMo, nmMo⟩ -- DockBookModel.seals
theorem flMo_60 : ma_FL "DockBookModel" 5 16 60 := ⟨RMo, TMo, rfl, by decide, iTMo, ma_in (by decide +kernel) rfl, ftMo, nmMo⟩ -- DockBookModel.gone
theorem cwmMo_nothing : ma_CW mMo_nothing := Or.inl ⟨rfl, ma_in (by decide +kernel) rfl⟩
theorem hvmMo_nothing : Cond.instanceMethod mMo_nothing.1 ∈ maT ∧ (∃ q, maCl[5]? = some q ∧ Cond.selects q.1 mMo_nothing.1 mMo_nothing.1 ∈ maT) := ⟨ma_in (by decide +kernel) rfl, _, rfl, ma_in (by decide +kernel) rfl⟩
theorem vwMo_135 : ma_VW "DockBookModel" 135 mMo_nothing 5 1 := ⟨ma_in (by decide +kernel) rfl, hvmMo_nothing.1, hvmMo_nothing.2, ⟨by decide +kernel, by decide +kernel⟩, by decide +kernel, cwmMo_nothing, by decide +kernel, by decide⟩
theorem fwMo_truck_36 : ma_FW mMo_truck 5 8 36 := ⟨RMo, TMo, rfl, by decide, iTMo, ma_in (by decide +kernel) rfl, ftMo, nmMo, Or.inl rfl⟩ -- DockBookModel.trucks
theorem fwMo_assign_7 : ma_FW mMo_assign 5 0 7 := ⟨RMo, TMo, rfl, by decide, iTMo, ma_in (by decide +kernel) rfl, ftMo, nmMo, Or.inl rfl⟩ -- DockBookModel.thrownCode
theorem cwmMo_findWaiting : ma_CW mMo_findWaiting := Or.inl ⟨rfl, ma_in (by decide +kernel) rfl⟩
theorem hvmMo_findWaiting : Cond.instanceMethod mMo_findWaiting.1 ∈ maT ∧ (∃ q, maCl[5]? = some q ∧ Cond.selects q.1 mMo_findWaiting.1 mMo_findWaiting.1 ∈ maT) := ⟨ma_in (by decide +kernel) rfl, _, rfl, ma_in (by decide +kernel) rfl⟩
theorem vwMo_139 : ma_VW "DockBookModel" 139 mMo_findWaiting 5 0 := ⟨ma_in (by decide +kernel) rfl, hvmMo_findWaiting.1, hvmMo_findWaiting.2, ⟨by decide +kernel, by decide +kernel⟩, by decide +kernel, cwmMo_findWaiting, by decide +kernel, by decide⟩
theorem fwMo_assign_72 : ma_FW mMo_assign 5 20 72 := ⟨RMo, TMo, rfl, by decide, iTMo, ma_in (by decide +kernel) rfl, ftMo, nmMo, Or.inl rfl⟩ -- DockBookModel.wasExact
theorem flMo_72 : ma_FL "DockBookModel" 5 20 72 := ⟨RMo, TMo, rfl, by decide, iTMo, ma_in (by decide +kernel) rfl, ftMo, nmMo⟩ -- DockBookModel.wasExact
theorem cwmMo_exactly : ma_CW mMo_exactly := Or.inl ⟨rfl, ma_in (by decide +kernel) rfl⟩
theorem hvmMo_exactly : Cond.instanceMethod mMo_exactly.1 ∈ maT ∧ (∃ q, maCl[5]? = some q ∧ Cond.selects q.1 mMo_exactly.1 mMo_exactly.1 ∈ maT) := ⟨ma_in (by decide +kernel) rfl, _, rfl, ma_in (by decide +kernel) rfl⟩
theorem vwMo_142 : ma_VW "DockBookModel" 142 mMo_exactly 5 0 := ⟨ma_in (by decide +kernel) rfl, hvmMo_exactly.1, hvmMo_exactly.2, ⟨by decide +kernel, by decide +kernel⟩, by decide +kernel, cwmMo_exactly, by decide +kernel, by decide⟩
theorem cwmMo_byRule : ma_CW mMo_byRule := Or.inl ⟨rfl, ma_in (by decide +kernel) rfl⟩
theorem hvmMo_byRule : Cond.instanceMethod mMo_byRule.1 ∈ maT ∧ (∃ q, maCl[5]? = some q ∧ Cond.selects q.1 mMo_byRule.1 mMo_byRule.1 ∈ maT) := ⟨ma_in (by decide +kernel) rfl, _, rfl, ma_in (by decide +kernel) rfl⟩
theorem vwMo_145 : ma_VW "DockBookModel" 145 mMo_byRule 5 0 := ⟨ma_in (by decide +kernel) rfl, hvmMo_byRule.1, hvmMo_byRule.2, ⟨by decide +kernel, by decide +kernel⟩, by decide +kernel, cwmMo_byRule, by decide +kernel, by decide⟩
theorem fwMo_assign_76 : ma_FW mMo_assign 5 21 76 := ⟨RMo, TMo, rfl, by decide, iTMo, ma_in (by decide +kernel) rfl, ftMo, nmMo, Or.inl rfl⟩ -- DockBookModel.movedNow
theorem flMo_76 : ma_FL "DockBookModel" 5 21 76 := ⟨RMo, TMo, rfl, by decide, iTMo, ma_in (by decide +kernel) rfl, ftMo, nmMo⟩ -- DockBookModel.movedNow
theorem cwmMo_costNow : ma_CW mMo_costNow := Or.inl ⟨rfl, ma_in (by decide +kernel) rfl⟩
theorem hvmMo_costNow : Cond.instanceMethod mMo_costNow.1 ∈ maT ∧ (∃ q, maCl[5]? = some q ∧ Cond.selects q.1 mMo_costNow.1 mMo_costNow.1 ∈ maT) := ⟨ma_in (by decide +kernel) rfl, _, rfl, ma_in (by decide +kernel) rfl⟩
theorem vwMo_148 : ma_VW "DockBookModel" 148 mMo_costNow 5 0 := ⟨ma_in (by decide +kernel) rfl, hvmMo_costNow.1, hvmMo_costNow.2, ⟨by decide +kernel, by decide +kernel⟩, by decide +kernel, cwmMo_costNow, by decide +kernel, by decide⟩
theorem fwMo_exact_7 : ma_FW mMo_exact 5 0 7 := ⟨RMo, TMo, rfl, by decide, iTMo, ma_in (by decide +kernel) rfl, ftMo, nmMo, Or.inl rfl⟩ -- DockBookModel.thrownCode
theorem fwMo_moved_7 : ma_FW mMo_moved 5 0 7 := ⟨RMo, TMo, rfl, by decide, iTMo, ma_in (by decide +kernel) rfl, ftMo, nmMo, Or.inl rfl⟩ -- DockBookModel.thrownCode
theorem fwMo_bound_7 : ma_FW mMo_bound 5 0 7 := ⟨RMo, TMo, rfl, by decide, iTMo, ma_in (by decide +kernel) rfl, ftMo, nmMo, Or.inl rfl⟩ -- DockBookModel.thrownCode
theorem cwmMo_noTruck : ma_CW mMo_noTruck := Or.inl ⟨rfl, ma_in (by decide +kernel) rfl⟩
theorem hvmMo_noTruck : Cond.instanceMethod mMo_noTruck.1 ∈ maT ∧ (∃ q, maCl[5]? = some q ∧ Cond.selects q.1 mMo_noTruck.1 mMo_noTruck.1 ∈ maT) := ⟨ma_in (by decide +kernel) rfl, _, rfl, ma_in (by decide +kernel) rfl⟩
theorem vwMo_152 : ma_VW "DockBookModel" 152 mMo_noTruck 5 1 := ⟨ma_in (by decide +kernel) rfl, hvmMo_noTruck.1, hvmMo_noTruck.2, ⟨by decide +kernel, by decide +kernel⟩, by decide +kernel, cwmMo_noTruck, by decide +kernel, by decide⟩
theorem fwMo_call_7 : ma_FW mMo_call 5 0 7 := ⟨RMo, TMo, rfl, by decide, iTMo, ma_in (by decide +kernel) rfl, ftMo, nmMo, Or.inl rfl⟩ -- DockBookModel.thrownCode
theorem fwMo_seal_7 : ma_FW mMo_seal 5 0 7 := ⟨RMo, TMo, rfl, by decide, iTMo, ma_in (by decide +kernel) rfl, ftMo, nmMo, Or.inl rfl⟩ -- DockBookModel.thrownCode
theorem flMo_66 : ma_FL "DockBookModel" 5 18 66 := ⟨RMo, TMo, rfl, by decide, iTMo, ma_in (by decide +kernel) rfl, ftMo, nmMo⟩ -- DockBookModel.twice
theorem fwMo_load_7 : ma_FW mMo_load 5 0 7 := ⟨RMo, TMo, rfl, by decide, iTMo, ma_in (by decide +kernel) rfl, ftMo, nmMo, Or.inl rfl⟩ -- DockBookModel.thrownCode
theorem flMo_69 : ma_FL "DockBookModel" 5 19 69 := ⟨RMo, TMo, rfl, by decide, iTMo, ma_in (by decide +kernel) rfl, ftMo, nmMo⟩ -- DockBookModel.same
theorem fwMo_depart_7 : ma_FW mMo_depart 5 0 7 := ⟨RMo, TMo, rfl, by decide, iTMo, ma_in (by decide +kernel) rfl, ftMo, nmMo, Or.inl rfl⟩ -- DockBookModel.thrownCode
theorem flMo_33 : ma_FL "DockBookModel" 5 7 33 := ⟨RMo, TMo, rfl, by decide, iTMo, ma_in (by decide +kernel) rfl, ftMo, nmMo⟩ -- DockBookModel.left
theorem fwMo_late_7 : ma_FW mMo_late 5 0 7 := ⟨RMo, TMo, rfl, by decide, iTMo, ma_in (by decide +kernel) rfl, ftMo, nmMo, Or.inl rfl⟩ -- DockBookModel.thrownCode
theorem fwMo_cancel_7 : ma_FW mMo_cancel 5 0 7 := ⟨RMo, TMo, rfl, by decide, iTMo, ma_in (by decide +kernel) rfl, ftMo, nmMo, Or.inl rfl⟩ -- DockBookModel.thrownCode
theorem cwmMo_noDoor : ma_CW mMo_noDoor := Or.inl ⟨rfl, ma_in (by decide +kernel) rfl⟩
theorem hvmMo_noDoor : Cond.instanceMethod mMo_noDoor.1 ∈ maT ∧ (∃ q, maCl[5]? = some q ∧ Cond.selects q.1 mMo_noDoor.1 mMo_noDoor.1 ∈ maT) := ⟨ma_in (by decide +kernel) rfl, _, rfl, ma_in (by decide +kernel) rfl⟩
theorem vwMo_156 : ma_VW "DockBookModel" 156 mMo_noDoor 5 1 := ⟨ma_in (by decide +kernel) rfl, hvmMo_noDoor.1, hvmMo_noDoor.2, ⟨by decide +kernel, by decide +kernel⟩, by decide +kernel, cwmMo_noDoor, by decide +kernel, by decide⟩
theorem fwMo_out_7 : ma_FW mMo_out 5 0 7 := ⟨RMo, TMo, rfl, by decide, iTMo, ma_in (by decide +kernel) rfl, ftMo, nmMo, Or.inl rfl⟩ -- DockBookModel.thrownCode
theorem fwMo_pass_7 : ma_FW mMo_pass 5 0 7 := ⟨RMo, TMo, rfl, by decide, iTMo, ma_in (by decide +kernel) rfl, ftMo, nmMo, Or.inl rfl⟩ -- DockBookModel.thrownCode
theorem fwMo_pass_13 : ma_FW mMo_pass 5 1 13 := ⟨RMo, TMo, rfl, by decide, iTMo, ma_in (by decide +kernel) rfl, ftMo, nmMo, Or.inl rfl⟩ -- DockBookModel.now
theorem fwMo_order_7 : ma_FW mMo_order 5 0 7 := ⟨RMo, TMo, rfl, by decide, iTMo, ma_in (by decide +kernel) rfl, ftMo, nmMo, Or.inl rfl⟩ -- DockBookModel.thrownCode
theorem fwMo_told_7 : ma_FW mMo_told 5 0 7 := ⟨RMo, TMo, rfl, by decide, iTMo, ma_in (by decide +kernel) rfl, ftMo, nmMo, Or.inl rfl⟩ -- DockBookModel.thrownCode
theorem fwMo_known_7 : ma_FW mMo_known 5 0 7 := ⟨RMo, TMo, rfl, by decide, iTMo, ma_in (by decide +kernel) rfl, ftMo, nmMo, Or.inl rfl⟩ -- DockBookModel.thrownCode
theorem fwMo_count_7 : ma_FW mMo_count 5 0 7 := ⟨RMo, TMo, rfl, by decide, iTMo, ma_in (by decide +kernel) rfl, ftMo, nmMo, Or.inl rfl⟩ -- DockBookModel.thrownCode
theorem flMo_100 : ma_FL "DockBookModel" 5 29 100 := ⟨RMo, TMo, rfl, by decide, iTMo, ma_in (by decide +kernel) rfl, ftMo, nmMo⟩ -- DockBookModel.counts
theorem cwmJa_fill : ma_CW mJa_fill := Or.inl ⟨rfl, ma_in (by decide +kernel) rfl⟩
theorem vwOr_22 : ma_SW "DockBook$DoorOrders" 22 mJa_fill 2 := ⟨ma_in (by decide +kernel) rfl, ma_in (by decide +kernel) rfl, ma_in (by decide +kernel) rfl, ⟨by decide +kernel, by decide +kernel⟩, by decide +kernel, cwmJa_fill, by decide +kernel, by decide⟩
theorem lcOr_21 : Jvm.Cond.constant "DockBook$DoorOrders" 21 1000000 ∈ maT := ma_in (by decide +kernel) rfl
theorem lcCh_27 : Jvm.Cond.constant "DockBook$DoorChoice" 27 1000000 ∈ maT := ma_in (by decide +kernel) rfl
