theorem cwmBk_door : ma_CW mBk_door := Or.inl ⟨rfl, ma_in (by decide +kernel) rfl⟩
theorem hvmBk_door : Cond.instanceMethod mBk_door.1 ∈ maT ∧ (∃ q, maCl[4]? = some q ∧ Cond.selects q.1 mBk_door.1 mBk_door.1 ∈ maT) := ⟨ma_in (by decide +kernel) rfl, _, rfl, ma_in (by decide +kernel) rfl⟩
theorem vwLw_7 : ma_VW "DockBookLaw" 7 mBk_door 4 3 := ⟨ma_in (by decide +kernel) rfl, hvmBk_door.1, hvmBk_door.2, ⟨by decide +kernel, by decide +kernel⟩, by decide +kernel, cwmBk_door, by decide +kernel, by decide⟩
theorem cwmBk_truck : ma_CW mBk_truck := Or.inl ⟨rfl, ma_in (by decide +kernel) rfl⟩
theorem hvmBk_truck : Cond.instanceMethod mBk_truck.1 ∈ maT ∧ (∃ q, maCl[4]? = some q ∧ Cond.selects q.1 mBk_truck.1 mBk_truck.1 ∈ maT) := ⟨ma_in (by decide +kernel) rfl, _, rfl, ma_in (by decide +kernel) rfl⟩
theorem vwLw_17 : ma_VW "DockBookLaw" 17 mBk_truck 4 4 := ⟨ma_in (by decide +kernel) rfl, hvmBk_truck.1, hvmBk_truck.2, ⟨by decide +kernel, by decide +kernel⟩, by decide +kernel, cwmBk_truck, by decide +kernel, by decide⟩
theorem cwmBk_assign : ma_CW mBk_assign := Or.inl ⟨rfl, ma_in (by decide +kernel) rfl⟩
theorem hvmBk_assign : Cond.instanceMethod mBk_assign.1 ∈ maT ∧ (∃ q, maCl[4]? = some q ∧ Cond.selects q.1 mBk_assign.1 mBk_assign.1 ∈ maT) := ⟨ma_in (by decide +kernel) rfl, _, rfl, ma_in (by decide +kernel) rfl⟩
theorem vwLw_21 : ma_VW "DockBookLaw" 21 mBk_assign 4 1 := ⟨ma_in (by decide +kernel) rfl, hvmBk_assign.1, hvmBk_assign.2, ⟨by decide +kernel, by decide +kernel⟩, by decide +kernel, cwmBk_assign, by decide +kernel, by decide⟩
theorem cwmBk_call : ma_CW mBk_call := Or.inl ⟨rfl, ma_in (by decide +kernel) rfl⟩
theorem hvmBk_call : Cond.instanceMethod mBk_call.1 ∈ maT ∧ (∃ q, maCl[4]? = some q ∧ Cond.selects q.1 mBk_call.1 mBk_call.1 ∈ maT) := ⟨ma_in (by decide +kernel) rfl, _, rfl, ma_in (by decide +kernel) rfl⟩
theorem vwLw_25 : ma_VW "DockBookLaw" 25 mBk_call 4 1 := ⟨ma_in (by decide +kernel) rfl, hvmBk_call.1, hvmBk_call.2, ⟨by decide +kernel, by decide +kernel⟩, by decide +kernel, cwmBk_call, by decide +kernel, by decide⟩
theorem cwmBk_seal : ma_CW mBk_seal := Or.inl ⟨rfl, ma_in (by decide +kernel) rfl⟩
theorem hvmBk_seal : Cond.instanceMethod mBk_seal.1 ∈ maT ∧ (∃ q, maCl[4]? = some q ∧ Cond.selects q.1 mBk_seal.1 mBk_seal.1 ∈ maT) := ⟨ma_in (by decide +kernel) rfl, _, rfl, ma_in (by decide +kernel) rfl⟩
theorem vwLw_33 : ma_VW "DockBookLaw" 33 mBk_seal 4 2 := ⟨ma_in (by decide +kernel) rfl, hvmBk_seal.1, hvmBk_seal.2, ⟨by decide +kernel, by decide +kernel⟩, by decide +kernel, cwmBk_seal, by decide +kernel, by decide⟩
theorem cwmBk_load : ma_CW mBk_load := Or.inl ⟨rfl, ma_in (by decide +kernel) rfl⟩
theorem hvmBk_load : Cond.instanceMethod mBk_load.1 ∈ maT ∧ (∃ q, maCl[4]? = some q ∧ Cond.selects q.1 mBk_load.1 mBk_load.1 ∈ maT) := ⟨ma_in (by decide +kernel) rfl, _, rfl, ma_in (by decide +kernel) rfl⟩
theorem vwLw_37 : ma_VW "DockBookLaw" 37 mBk_load 4 3 := ⟨ma_in (by decide +kernel) rfl, hvmBk_load.1, hvmBk_load.2, ⟨by decide +kernel, by decide +kernel⟩, by decide +kernel, cwmBk_load, by decide +kernel, by decide⟩
theorem cwmBk_depart : ma_CW mBk_depart := Or.inl ⟨rfl, ma_in (by decide +kernel) rfl⟩
theorem hvmBk_depart : Cond.instanceMethod mBk_depart.1 ∈ maT ∧ (∃ q, maCl[4]? = some q ∧ Cond.selects q.1 mBk_depart.1 mBk_depart.1 ∈ maT) := ⟨ma_in (by decide +kernel) rfl, _, rfl, ma_in (by decide +kernel) rfl⟩
theorem vwLw_41 : ma_VW "DockBookLaw" 41 mBk_depart 4 1 := ⟨ma_in (by decide +kernel) rfl, hvmBk_depart.1, hvmBk_depart.2, ⟨by decide +kernel, by decide +kernel⟩, by decide +kernel, cwmBk_depart, by decide +kernel, by decide⟩
theorem cwmBk_late : ma_CW mBk_late := Or.inl ⟨rfl, ma_in (by decide +kernel) rfl⟩
theorem hvmBk_late : Cond.instanceMethod mBk_late.1 ∈ maT ∧ (∃ q, maCl[4]? = some q ∧ Cond.selects q.1 mBk_late.1 mBk_late.1 ∈ maT) := ⟨ma_in (by decide +kernel) rfl, _, rfl, ma_in (by decide +kernel) rfl⟩
theorem vwLw_44 : ma_VW "DockBookLaw" 44 mBk_late 4 2 := ⟨ma_in (by decide +kernel) rfl, hvmBk_late.1, hvmBk_late.2, ⟨by decide +kernel, by decide +kernel⟩, by decide +kernel, cwmBk_late, by decide +kernel, by decide⟩
theorem cwmBk_cancel : ma_CW mBk_cancel := Or.inl ⟨rfl, ma_in (by decide +kernel) rfl⟩
theorem hvmBk_cancel : Cond.instanceMethod mBk_cancel.1 ∈ maT ∧ (∃ q, maCl[4]? = some q ∧ Cond.selects q.1 mBk_cancel.1 mBk_cancel.1 ∈ maT) := ⟨ma_in (by decide +kernel) rfl, _, rfl, ma_in (by decide +kernel) rfl⟩
theorem vwLw_48 : ma_VW "DockBookLaw" 48 mBk_cancel 4 1 := ⟨ma_in (by decide +kernel) rfl, hvmBk_cancel.1, hvmBk_cancel.2, ⟨by decide +kernel, by decide +kernel⟩, by decide +kernel, cwmBk_cancel, by decide +kernel, by decide⟩
theorem cwmBk_out : ma_CW mBk_out := Or.inl ⟨rfl, ma_in (by decide +kernel) rfl⟩
theorem hvmBk_out : Cond.instanceMethod mBk_out.1 ∈ maT ∧ (∃ q, maCl[4]? = some q ∧ Cond.selects q.1 mBk_out.1 mBk_out.1 ∈ maT) := ⟨ma_in (by decide +kernel) rfl, _, rfl, ma_in (by decide +kernel) rfl⟩
theorem vwLw_51 : ma_VW "DockBookLaw" 51 mBk_out 4 2 := ⟨ma_in (by decide +kernel) rfl, hvmBk_out.1, hvmBk_out.2, ⟨by decide +kernel, by decide +kernel⟩, by decide +kernel, cwmBk_out, by decide +kernel, by decide⟩
theorem cwmBk_pass : ma_CW mBk_pass := Or.inl ⟨rfl, ma_in (by decide +kernel) rfl⟩
theorem hvmBk_pass : Cond.instanceMethod mBk_pass.1 ∈ maT ∧ (∃ q, maCl[4]? = some q ∧ Cond.selects q.1 mBk_pass.1 mBk_pass.1 ∈ maT) := ⟨ma_in (by decide +kernel) rfl, _, rfl, ma_in (by decide +kernel) rfl⟩
theorem vwLw_55 : ma_VW "DockBookLaw" 55 mBk_pass 4 1 := ⟨ma_in (by decide +kernel) rfl, hvmBk_pass.1, hvmBk_pass.2, ⟨by decide +kernel, by decide +kernel⟩, by decide +kernel, cwmBk_pass, by decide +kernel, by decide⟩
theorem cwmBk_order : ma_CW mBk_order := Or.inl ⟨rfl, ma_in (by decide +kernel) rfl⟩
theorem hvmBk_order : Cond.instanceMethod mBk_order.1 ∈ maT ∧ (∃ q, maCl[4]? = some q ∧ Cond.selects q.1 mBk_order.1 mBk_order.1 ∈ maT) := ⟨ma_in (by decide +kernel) rfl, _, rfl, ma_in (by decide +kernel) rfl⟩
theorem vwLw_58 : ma_VW "DockBookLaw" 58 mBk_order 4 2 := ⟨ma_in (by decide +kernel) rfl, hvmBk_order.1, hvmBk_order.2, ⟨by decide +kernel, by decide +kernel⟩, by decide +kernel, cwmBk_order, by decide +kernel, by decide⟩
theorem cwmBk_told : ma_CW mBk_told := Or.inl ⟨rfl, ma_in (by decide +kernel) rfl⟩
theorem hvmBk_told : Cond.instanceMethod mBk_told.1 ∈ maT ∧ (∃ q, maCl[4]? = some q ∧ Cond.selects q.1 mBk_told.1 mBk_told.1 ∈ maT) := ⟨ma_in (by decide +kernel) rfl, _, rfl, ma_in (by decide +kernel) rfl⟩
theorem vwLw_61 : ma_VW "DockBookLaw" 61 mBk_told 4 2 := ⟨ma_in (by decide +kernel) rfl, hvmBk_told.1, hvmBk_told.2, ⟨by decide +kernel, by decide +kernel⟩, by decide +kernel, cwmBk_told, by decide +kernel, by decide⟩
theorem cwmBk_known : ma_CW mBk_known := Or.inl ⟨rfl, ma_in (by decide +kernel) rfl⟩
theorem hvmBk_known : Cond.instanceMethod mBk_known.1 ∈ maT ∧ (∃ q, maCl[4]? = some q ∧ Cond.selects q.1 mBk_known.1 mBk_known.1 ∈ maT) := ⟨ma_in (by decide +kernel) rfl, _, rfl, ma_in (by decide +kernel) rfl⟩
theorem vwLw_64 : ma_VW "DockBookLaw" 64 mBk_known 4 2 := ⟨ma_in (by decide +kernel) rfl, hvmBk_known.1, hvmBk_known.2, ⟨by decide +kernel, by decide +kernel⟩, by decide +kernel, cwmBk_known, by decide +kernel, by decide⟩
theorem nwLw_8 : ma_NW "DockBookLaw" 4 8 := ⟨RBk, TBk, rfl, iTBk, ma_in (by decide +kernel) rfl, ma_in (by decide +kernel) rfl, ma_in (by decide +kernel) rfl, ftBk, dfBk⟩
theorem cwmBk_init : ma_CW mBk_init := Or.inl ⟨rfl, ma_in (by decide +kernel) rfl⟩
theorem vwLw_67 : ma_IW "DockBookLaw" 67 mBk_init 0 := ⟨ma_in (by decide +kernel) rfl, ma_in (by decide +kernel) rfl, rfl, ⟨by decide +kernel, by decide +kernel⟩, by decide +kernel, ma_in (by decide +kernel) rfl, cwmBk_init, by decide +kernel, by decide⟩
theorem nwLw_68 : ma_NW "DockBookLaw" 5 68 := ⟨RMo, TMo, rfl, iTMo, ma_in (by decide +kernel) rfl, ma_in (by decide +kernel) rfl, ma_in (by decide +kernel) rfl, ftMo, dfMo⟩
theorem cwmMo_init : ma_CW mMo_init := Or.inl ⟨rfl, ma_in (by decide +kernel) rfl⟩
theorem vwLw_70 : ma_IW "DockBookLaw" 70 mMo_init 0 := ⟨ma_in (by decide +kernel) rfl, ma_in (by decide +kernel) rfl, rfl, ⟨by decide +kernel, by decide +kernel⟩, by decide +kernel, ma_in (by decide +kernel) rfl, cwmMo_init, by decide +kernel, by decide⟩
theorem cwmLw_door : ma_CW mLw_door := Or.inr (ma_in (by decide +kernel) rfl)
theorem vwLw_71 : ma_SW "DockBookLaw" 71 mLw_door 5 := ⟨ma_in (by decide +kernel) rfl, ma_in (by decide +kernel) rfl, ma_in (by decide +kernel) rfl, ⟨by decide +kernel, by decide +kernel⟩, by decide +kernel, cwmLw_door, by decide +kernel, by decide⟩
theorem cwmMo_door : ma_CW mMo_door := Or.inl ⟨rfl, ma_in (by decide +kernel) rfl⟩
theorem hvmMo_door : Cond.instanceMethod mMo_door.1 ∈ maT ∧ (∃ q, maCl[5]? = some q ∧ Cond.selects q.1 mMo_door.1 mMo_door.1 ∈ maT) := ⟨ma_in (by decide +kernel) rfl, _, rfl, ma_in (by decide +kernel) rfl⟩
theorem vwLw_76 : ma_VW "DockBookLaw" 76 mMo_door 5 3 := ⟨ma_in (by decide +kernel) rfl, hvmMo_door.1, hvmMo_door.2, ⟨by decide +kernel, by decide +kernel⟩, by decide +kernel, cwmMo_door, by decide +kernel, by decide⟩
theorem cwmLw_truck : ma_CW mLw_truck := Or.inr (ma_in (by decide +kernel) rfl)
theorem vwLw_77 : ma_SW "DockBookLaw" 77 mLw_truck 6 := ⟨ma_in (by decide +kernel) rfl, ma_in (by decide +kernel) rfl, ma_in (by decide +kernel) rfl, ⟨by decide +kernel, by decide +kernel⟩, by decide +kernel, cwmLw_truck, by decide +kernel, by decide⟩
theorem cwmMo_truck : ma_CW mMo_truck := Or.inl ⟨rfl, ma_in (by decide +kernel) rfl⟩
theorem hvmMo_truck : Cond.instanceMethod mMo_truck.1 ∈ maT ∧ (∃ q, maCl[5]? = some q ∧ Cond.selects q.1 mMo_truck.1 mMo_truck.1 ∈ maT) := ⟨ma_in (by decide +kernel) rfl, _, rfl, ma_in (by decide +kernel) rfl⟩
theorem vwLw_80 : ma_VW "DockBookLaw" 80 mMo_truck 5 4 := ⟨ma_in (by decide +kernel) rfl, hvmMo_truck.1, hvmMo_truck.2, ⟨by decide +kernel, by decide +kernel⟩, by decide +kernel, cwmMo_truck, by decide +kernel, by decide⟩
theorem cwmLw_assign : ma_CW mLw_assign := Or.inr (ma_in (by decide +kernel) rfl)
theorem vwLw_81 : ma_SW "DockBookLaw" 81 mLw_assign 3 := ⟨ma_in (by decide +kernel) rfl, ma_in (by decide +kernel) rfl, ma_in (by decide +kernel) rfl, ⟨by decide +kernel, by decide +kernel⟩, by decide +kernel, cwmLw_assign, by decide +kernel, by decide⟩
theorem cwmMo_assign : ma_CW mMo_assign := Or.inl ⟨rfl, ma_in (by decide +kernel) rfl⟩
theorem hvmMo_assign : Cond.instanceMethod mMo_assign.1 ∈ maT ∧ (∃ q, maCl[5]? = some q ∧ Cond.selects q.1 mMo_assign.1 mMo_assign.1 ∈ maT) := ⟨ma_in (by decide +kernel) rfl, _, rfl, ma_in (by decide +kernel) rfl⟩
theorem vwLw_84 : ma_VW "DockBookLaw" 84 mMo_assign 5 1 := ⟨ma_in (by decide +kernel) rfl, hvmMo_assign.1, hvmMo_assign.2, ⟨by decide +kernel, by decide +kernel⟩, by decide +kernel, cwmMo_assign, by decide +kernel, by decide⟩
theorem cwmBk_exact : ma_CW mBk_exact := Or.inl ⟨rfl, ma_in (by decide +kernel) rfl⟩
theorem hvmBk_exact : Cond.instanceMethod mBk_exact.1 ∈ maT ∧ (∃ q, maCl[4]? = some q ∧ Cond.selects q.1 mBk_exact.1 mBk_exact.1 ∈ maT) := ⟨ma_in (by decide +kernel) rfl, _, rfl, ma_in (by decide +kernel) rfl⟩
theorem vwLw_85 : ma_VW "DockBookLaw" 85 mBk_exact 4 0 := ⟨ma_in (by decide +kernel) rfl, hvmBk_exact.1, hvmBk_exact.2, ⟨by decide +kernel, by decide +kernel⟩, by decide +kernel, cwmBk_exact, by decide +kernel, by decide⟩
theorem cwmMo_exact : ma_CW mMo_exact := Or.inl ⟨rfl, ma_in (by decide +kernel) rfl⟩
theorem hvmMo_exact : Cond.instanceMethod mMo_exact.1 ∈ maT ∧ (∃ q, maCl[5]? = some q ∧ Cond.selects q.1 mMo_exact.1 mMo_exact.1 ∈ maT) := ⟨ma_in (by decide +kernel) rfl, _, rfl, ma_in (by decide +kernel) rfl⟩
theorem vwLw_89 : ma_VW "DockBookLaw" 89 mMo_exact 5 0 := ⟨ma_in (by decide +kernel) rfl, hvmMo_exact.1, hvmMo_exact.2, ⟨by decide +kernel, by decide +kernel⟩, by decide +kernel, cwmMo_exact, by decide +kernel, by decide⟩
theorem cwmBk_moved : ma_CW mBk_moved := Or.inl ⟨rfl, ma_in (by decide +kernel) rfl⟩
theorem hvmBk_moved : Cond.instanceMethod mBk_moved.1 ∈ maT ∧ (∃ q, maCl[4]? = some q ∧ Cond.selects q.1 mBk_moved.1 mBk_moved.1 ∈ maT) := ⟨ma_in (by decide +kernel) rfl, _, rfl, ma_in (by decide +kernel) rfl⟩
theorem vwLw_90 : ma_VW "DockBookLaw" 90 mBk_moved 4 0 := ⟨ma_in (by decide +kernel) rfl, hvmBk_moved.1, hvmBk_moved.2, ⟨by decide +kernel, by decide +kernel⟩, by decide +kernel, cwmBk_moved, by decide +kernel, by decide⟩
theorem cwmMo_moved : ma_CW mMo_moved := Or.inl ⟨rfl, ma_in (by decide +kernel) rfl⟩
theorem hvmMo_moved : Cond.instanceMethod mMo_moved.1 ∈ maT ∧ (∃ q, maCl[5]? = some q ∧ Cond.selects q.1 mMo_moved.1 mMo_moved.1 ∈ maT) := ⟨ma_in (by decide +kernel) rfl, _, rfl, ma_in (by decide +kernel) rfl⟩
theorem vwLw_94 : ma_VW "DockBookLaw" 94 mMo_moved 5 0 := ⟨ma_in (by decide +kernel) rfl, hvmMo_moved.1, hvmMo_moved.2, ⟨by decide +kernel, by decide +kernel⟩, by decide +kernel, cwmMo_moved, by decide +kernel, by decide⟩
theorem cwmBk_bound : ma_CW mBk_bound := Or.inl ⟨rfl, ma_in (by decide +kernel) rfl⟩
theorem hvmBk_bound : Cond.instanceMethod mBk_bound.1 ∈ maT ∧ (∃ q, maCl[4]? = some q ∧ Cond.selects q.1 mBk_bound.1 mBk_bound.1 ∈ maT) := ⟨ma_in (by decide +kernel) rfl, _, rfl, ma_in (by decide +kernel) rfl⟩
theorem vwLw_95 : ma_VW "DockBookLaw" 95 mBk_bound 4 0 := ⟨ma_in (by decide +kernel) rfl, hvmBk_bound.1, hvmBk_bound.2, ⟨by decide +kernel, by decide +kernel⟩, by decide +kernel, cwmBk_bound, by decide +kernel, by decide⟩
theorem cwmMo_bound : ma_CW mMo_bound := Or.inl ⟨rfl, ma_in (by decide +kernel) rfl⟩
theorem hvmMo_bound : Cond.instanceMethod mMo_bound.1 ∈ maT ∧ (∃ q, maCl[5]? = some q ∧ Cond.selects q.1 mMo_bound.1 mMo_bound.1 ∈ maT) := ⟨ma_in (by decide +kernel) rfl, _, rfl, ma_in (by decide +kernel) rfl⟩
theorem vwLw_98 : ma_VW "DockBookLaw" 98 mMo_bound 5 0 := ⟨ma_in (by decide +kernel) rfl, hvmMo_bound.1, hvmMo_bound.2, ⟨by decide +kernel, by decide +kernel⟩, by decide +kernel, cwmMo_bound, by decide +kernel, by decide⟩
theorem cwmLw_call : ma_CW mLw_call := Or.inr (ma_in (by decide +kernel) rfl)
theorem vwLw_99 : ma_SW "DockBookLaw" 99 mLw_call 2 := ⟨ma_in (by decide +kernel) rfl, ma_in (by decide +kernel) rfl, ma_in (by decide +kernel) rfl, ⟨by decide +kernel, by decide +kernel⟩, by decide +kernel, cwmLw_call, by decide +kernel, by decide⟩
theorem cwmMo_call : ma_CW mMo_call := Or.inl ⟨rfl, ma_in (by decide +kernel) rfl⟩
theorem hvmMo_call : Cond.instanceMethod mMo_call.1 ∈ maT ∧ (∃ q, maCl[5]? = some q ∧ Cond.selects q.1 mMo_call.1 mMo_call.1 ∈ maT) := ⟨ma_in (by decide +kernel) rfl, _, rfl, ma_in (by decide +kernel) rfl⟩
theorem vwLw_102 : ma_VW "DockBookLaw" 102 mMo_call 5 1 := ⟨ma_in (by decide +kernel) rfl, hvmMo_call.1, hvmMo_call.2, ⟨by decide +kernel, by decide +kernel⟩, by decide +kernel, cwmMo_call, by decide +kernel, by decide⟩
theorem cwmLw_seal : ma_CW mLw_seal := Or.inr (ma_in (by decide +kernel) rfl)
theorem vwLw_103 : ma_SW "DockBookLaw" 103 mLw_seal 4 := ⟨ma_in (by decide +kernel) rfl, ma_in (by decide +kernel) rfl, ma_in (by decide +kernel) rfl, ⟨by decide +kernel, by decide +kernel⟩, by decide +kernel, cwmLw_seal, by decide +kernel, by decide⟩
theorem cwmMo_seal : ma_CW mMo_seal := Or.inl ⟨rfl, ma_in (by decide +kernel) rfl⟩
theorem hvmMo_seal : Cond.instanceMethod mMo_seal.1 ∈ maT ∧ (∃ q, maCl[5]? = some q ∧ Cond.selects q.1 mMo_seal.1 mMo_seal.1 ∈ maT) := ⟨ma_in (by decide +kernel) rfl, _, rfl, ma_in (by decide +kernel) rfl⟩
theorem vwLw_106 : ma_VW "DockBookLaw" 106 mMo_seal 5 2 := ⟨ma_in (by decide +kernel) rfl, hvmMo_seal.1, hvmMo_seal.2, ⟨by decide +kernel, by decide +kernel⟩, by decide +kernel, cwmMo_seal, by decide +kernel, by decide⟩
theorem cwmLw_load : ma_CW mLw_load := Or.inr (ma_in (by decide +kernel) rfl)
theorem vwLw_107 : ma_SW "DockBookLaw" 107 mLw_load 5 := ⟨ma_in (by decide +kernel) rfl, ma_in (by decide +kernel) rfl, ma_in (by decide +kernel) rfl, ⟨by decide +kernel, by decide +kernel⟩, by decide +kernel, cwmLw_load, by decide +kernel, by decide⟩
theorem cwmMo_load : ma_CW mMo_load := Or.inl ⟨rfl, ma_in (by decide +kernel) rfl⟩
theorem hvmMo_load : Cond.instanceMethod mMo_load.1 ∈ maT ∧ (∃ q, maCl[5]? = some q ∧ Cond.selects q.1 mMo_load.1 mMo_load.1 ∈ maT) := ⟨ma_in (by decide +kernel) rfl, _, rfl, ma_in (by decide +kernel) rfl⟩
theorem vwLw_109 : ma_VW "DockBookLaw" 109 mMo_load 5 3 := ⟨ma_in (by decide +kernel) rfl, hvmMo_load.1, hvmMo_load.2, ⟨by decide +kernel, by decide +kernel⟩, by decide +kernel, cwmMo_load, by decide +kernel, by decide⟩
theorem cwmLw_depart : ma_CW mLw_depart := Or.inr (ma_in (by decide +kernel) rfl)
theorem vwLw_110 : ma_SW "DockBookLaw" 110 mLw_depart 3 := ⟨ma_in (by decide +kernel) rfl, ma_in (by decide +kernel) rfl, ma_in (by decide +kernel) rfl, ⟨by decide +kernel, by decide +kernel⟩, by decide +kernel, cwmLw_depart, by decide +kernel, by decide⟩
theorem cwmMo_depart : ma_CW mMo_depart := Or.inl ⟨rfl, ma_in (by decide +kernel) rfl⟩
theorem hvmMo_depart : Cond.instanceMethod mMo_depart.1 ∈ maT ∧ (∃ q, maCl[5]? = some q ∧ Cond.selects q.1 mMo_depart.1 mMo_depart.1 ∈ maT) := ⟨ma_in (by decide +kernel) rfl, _, rfl, ma_in (by decide +kernel) rfl⟩
theorem vwLw_112 : ma_VW "DockBookLaw" 112 mMo_depart 5 1 := ⟨ma_in (by decide +kernel) rfl, hvmMo_depart.1, hvmMo_depart.2, ⟨by decide +kernel, by decide +kernel⟩, by decide +kernel, cwmMo_depart, by decide +kernel, by decide⟩
theorem cwmLw_late : ma_CW mLw_late := Or.inr (ma_in (by decide +kernel) rfl)
theorem vwLw_113 : ma_SW "DockBookLaw" 113 mLw_late 4 := ⟨ma_in (by decide +kernel) rfl, ma_in (by decide +kernel) rfl, ma_in (by decide +kernel) rfl, ⟨by decide +kernel, by decide +kernel⟩, by decide +kernel, cwmLw_late, by decide +kernel, by decide⟩
theorem cwmMo_late : ma_CW mMo_late := Or.inl ⟨rfl, ma_in (by decide +kernel) rfl⟩
theorem hvmMo_late : Cond.instanceMethod mMo_late.1 ∈ maT ∧ (∃ q, maCl[5]? = some q ∧ Cond.selects q.1 mMo_late.1 mMo_late.1 ∈ maT) := ⟨ma_in (by decide +kernel) rfl, _, rfl, ma_in (by decide +kernel) rfl⟩
theorem vwLw_115 : ma_VW "DockBookLaw" 115 mMo_late 5 2 := ⟨ma_in (by decide +kernel) rfl, hvmMo_late.1, hvmMo_late.2, ⟨by decide +kernel, by decide +kernel⟩, by decide +kernel, cwmMo_late, by decide +kernel, by decide⟩
theorem cwmLw_cancel : ma_CW mLw_cancel := Or.inr (ma_in (by decide +kernel) rfl)
theorem vwLw_116 : ma_SW "DockBookLaw" 116 mLw_cancel 2 := ⟨ma_in (by decide +kernel) rfl, ma_in (by decide +kernel) rfl, ma_in (by decide +kernel) rfl, ⟨by decide +kernel, by decide +kernel⟩, by decide +kernel, cwmLw_cancel, by decide +kernel, by decide⟩
theorem cwmMo_cancel : ma_CW mMo_cancel := Or.inl ⟨rfl, ma_in (by decide +kernel) rfl⟩
theorem hvmMo_cancel : Cond.instanceMethod mMo_cancel.1 ∈ maT ∧ (∃ q, maCl[5]? = some q ∧ Cond.selects q.1 mMo_cancel.1 mMo_cancel.1 ∈ maT) := ⟨ma_in (by decide +kernel) rfl, _, rfl, ma_in (by decide +kernel) rfl⟩
theorem vwLw_118 : ma_VW "DockBookLaw" 118 mMo_cancel 5 1 := ⟨ma_in (by decide +kernel) rfl, hvmMo_cancel.1, hvmMo_cancel.2, ⟨by decide +kernel, by decide +kernel⟩, by decide +kernel, cwmMo_cancel, by decide +kernel, by decide⟩
theorem cwmLw_out : ma_CW mLw_out := Or.inr (ma_in (by decide +kernel) rfl)
theorem vwLw_119 : ma_SW "DockBookLaw" 119 mLw_out 4 := ⟨ma_in (by decide +kernel) rfl, ma_in (by decide +kernel) rfl, ma_in (by decide +kernel) rfl, ⟨by decide +kernel, by decide +kernel⟩, by decide +kernel, cwmLw_out, by decide +kernel, by decide⟩
theorem cwmMo_out : ma_CW mMo_out := Or.inl ⟨rfl, ma_in (by decide +kernel) rfl⟩
theorem hvmMo_out : Cond.instanceMethod mMo_out.1 ∈ maT ∧ (∃ q, maCl[5]? = some q ∧ Cond.selects q.1 mMo_out.1 mMo_out.1 ∈ maT) := ⟨ma_in (by decide +kernel) rfl, _, rfl, ma_in (by decide +kernel) rfl⟩
theorem vwLw_122 : ma_VW "DockBookLaw" 122 mMo_out 5 2 := ⟨ma_in (by decide +kernel) rfl, hvmMo_out.1, hvmMo_out.2, ⟨by decide +kernel, by decide +kernel⟩, by decide +kernel, cwmMo_out, by decide +kernel, by decide⟩
theorem cwmLw_pass : ma_CW mLw_pass := Or.inr (ma_in (by decide +kernel) rfl)
theorem vwLw_123 : ma_SW "DockBookLaw" 123 mLw_pass 2 := ⟨ma_in (by decide +kernel) rfl, ma_in (by decide +kernel) rfl, ma_in (by decide +kernel) rfl, ⟨by decide +kernel, by decide +kernel⟩, by decide +kernel, cwmLw_pass, by decide +kernel, by decide⟩
theorem cwmMo_pass : ma_CW mMo_pass := Or.inl ⟨rfl, ma_in (by decide +kernel) rfl⟩
theorem hvmMo_pass : Cond.instanceMethod mMo_pass.1 ∈ maT ∧ (∃ q, maCl[5]? = some q ∧ Cond.selects q.1 mMo_pass.1 mMo_pass.1 ∈ maT) := ⟨ma_in (by decide +kernel) rfl, _, rfl, ma_in (by decide +kernel) rfl⟩
theorem vwLw_125 : ma_VW "DockBookLaw" 125 mMo_pass 5 1 := ⟨ma_in (by decide +kernel) rfl, hvmMo_pass.1, hvmMo_pass.2, ⟨by decide +kernel, by decide +kernel⟩, by decide +kernel, cwmMo_pass, by decide +kernel, by decide⟩
theorem cwmMo_thrown : ma_CW mMo_thrown := Or.inl ⟨rfl, ma_in (by decide +kernel) rfl⟩
theorem hvmMo_thrown : Cond.instanceMethod mMo_thrown.1 ∈ maT ∧ (∃ q, maCl[5]? = some q ∧ Cond.selects q.1 mMo_thrown.1 mMo_thrown.1 ∈ maT) := ⟨ma_in (by decide +kernel) rfl, _, rfl, ma_in (by decide +kernel) rfl⟩
theorem vwLw_126 : ma_VW "DockBookLaw" 126 mMo_thrown 5 0 := ⟨ma_in (by decide +kernel) rfl, hvmMo_thrown.1, hvmMo_thrown.2, ⟨by decide +kernel, by decide +kernel⟩, by decide +kernel, cwmMo_thrown, by decide +kernel, by decide⟩
theorem cwmLw_order : ma_CW mLw_order := Or.inr (ma_in (by decide +kernel) rfl)
theorem vwLw_129 : ma_SW "DockBookLaw" 129 mLw_order 4 := ⟨ma_in (by decide +kernel) rfl, ma_in (by decide +kernel) rfl, ma_in (by decide +kernel) rfl, ⟨by decide +kernel, by decide +kernel⟩, by decide +kernel, cwmLw_order, by decide +kernel, by decide⟩
theorem cwmMo_order : ma_CW mMo_order := Or.inl ⟨rfl, ma_in (by decide +kernel) rfl⟩
theorem hvmMo_order : Cond.instanceMethod mMo_order.1 ∈ maT ∧ (∃ q, maCl[5]? = some q ∧ Cond.selects q.1 mMo_order.1 mMo_order.1 ∈ maT) := ⟨ma_in (by decide +kernel) rfl, _, rfl, ma_in (by decide +kernel) rfl⟩
theorem vwLw_131 : ma_VW "DockBookLaw" 131 mMo_order 5 2 := ⟨ma_in (by decide +kernel) rfl, hvmMo_order.1, hvmMo_order.2, ⟨by decide +kernel, by decide +kernel⟩, by decide +kernel, cwmMo_order, by decide +kernel, by decide⟩
theorem cwmLw_told : ma_CW mLw_told := Or.inr (ma_in (by decide +kernel) rfl)
theorem vwLw_132 : ma_SW "DockBookLaw" 132 mLw_told 4 := ⟨ma_in (by decide +kernel) rfl, ma_in (by decide +kernel) rfl, ma_in (by decide +kernel) rfl, ⟨by decide +kernel, by decide +kernel⟩, by decide +kernel, cwmLw_told, by decide +kernel, by decide⟩
theorem cwmMo_told : ma_CW mMo_told := Or.inl ⟨rfl, ma_in (by decide +kernel) rfl⟩
theorem hvmMo_told : Cond.instanceMethod mMo_told.1 ∈ maT ∧ (∃ q, maCl[5]? = some q ∧ Cond.selects q.1 mMo_told.1 mMo_told.1 ∈ maT) := ⟨ma_in (by decide +kernel) rfl, _, rfl, ma_in (by decide +kernel) rfl⟩
theorem vwLw_134 : ma_VW "DockBookLaw" 134 mMo_told 5 2 := ⟨ma_in (by decide +kernel) rfl, hvmMo_told.1, hvmMo_told.2, ⟨by decide +kernel, by decide +kernel⟩, by decide +kernel, cwmMo_told, by decide +kernel, by decide⟩
theorem cwmLw_known : ma_CW mLw_known := Or.inr (ma_in (by decide +kernel) rfl)
theorem vwLw_135 : ma_SW "DockBookLaw" 135 mLw_known 4 := ⟨ma_in (by decide +kernel) rfl, ma_in (by decide +kernel) rfl, ma_in (by decide +kernel) rfl, ⟨by decide +kernel, by decide +kernel⟩, by decide +kernel, cwmLw_known, by decide +kernel, by decide⟩
theorem cwmMo_known : ma_CW mMo_known := Or.inl ⟨rfl, ma_in (by decide +kernel) rfl⟩
theorem hvmMo_known : Cond.instanceMethod mMo_known.1 ∈ maT ∧ (∃ q, maCl[5]? = some q ∧ Cond.selects q.1 mMo_known.1 mMo_known.1 ∈ maT) := ⟨ma_in (by decide +kernel) rfl, _, rfl, ma_in (by decide +kernel) rfl⟩
theorem vwLw_137 : ma_VW "DockBookLaw" 137 mMo_known 5 2 := ⟨ma_in (by decide +kernel) rfl, hvmMo_known.1, hvmMo_known.2, ⟨by decide +kernel, by decide +kernel⟩, by decide +kernel, cwmMo_known, by decide +kernel, by decide⟩
theorem cwmBk_count : ma_CW mBk_count := Or.inl ⟨rfl, ma_in (by decide +kernel) rfl⟩
theorem hvmBk_count : Cond.instanceMethod mBk_count.1 ∈ maT ∧ (∃ q, maCl[4]? = some q ∧ Cond.selects q.1 mBk_count.1 mBk_count.1 ∈ maT) := ⟨ma_in (by decide +kernel) rfl, _, rfl, ma_in (by decide +kernel) rfl⟩
theorem vwLw_138 : ma_VW "DockBookLaw" 138 mBk_count 4 1 := ⟨ma_in (by decide +kernel) rfl, hvmBk_count.1, hvmBk_count.2, ⟨by decide +kernel, by decide +kernel⟩, by decide +kernel, cwmBk_count, by decide +kernel, by decide⟩
theorem cwmMo_count : ma_CW mMo_count := Or.inl ⟨rfl, ma_in (by decide +kernel) rfl⟩
theorem hvmMo_count : Cond.instanceMethod mMo_count.1 ∈ maT ∧ (∃ q, maCl[5]? = some q ∧ Cond.selects q.1 mMo_count.1 mMo_count.1 ∈ maT) := ⟨ma_in (by decide +kernel) rfl, _, rfl, ma_in (by decide +kernel) rfl⟩
theorem vwLw_141 : ma_VW "DockBookLaw" 141 mMo_count 5 1 := ⟨ma_in (by decide +kernel) rfl, hvmMo_count.1, hvmMo_count.2, ⟨by decide +kernel, by decide +kernel⟩, by decide +kernel, cwmMo_count, by decide +kernel, by decide⟩
