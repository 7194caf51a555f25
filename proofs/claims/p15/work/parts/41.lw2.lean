/-! THE LAW, 2: its helpers -/
theorem hf_door_1 : ma_hf mLw_door 7 1 15 := Or.inr ⟨rfl, by decide, ma_en 1, ma_in (by decide +kernel) rfl, Or.inl ⟨rfl, rfl⟩⟩
theorem hf_door_2 : ma_hf mLw_door 7 2 19 := Or.inr ⟨rfl, by decide, ma_en 1, ma_in (by decide +kernel) rfl, Or.inr ⟨⟨1, rfl, by decide, by decide, by decide, by decide, by decide⟩, Or.inr ⟨rfl, by decide, ma_en 2, ma_in (by decide +kernel) rfl, Or.inl ⟨rfl, rfl⟩⟩⟩⟩
set_option maxHeartbeats 4000000 in
theorem g_Lw_door {sc : Nat × (Nat → Int32)} {d : Nat} {G : GB} {G' : GR} {h : AH} (K : KB G h h) (R : KR G' h h) (l : h.2.2.2.1 101 0 = 1) (x0 x1 x2 : Int32) : Go sc true false (d + 21) 5 30 mLw_door 0 [vO 4 (0), vI x0, vI x1, vI x2, vO 101 0, vU] [] h (PV (fun _ => LQ G G')) := by
  refine Go.aload dLw_door_0 rfl (Nat.ne_of_beq_eq_false rfl) ?_
  refine Go.iconst (v := nI 0) dLw_door_2 (by decide) ?_
  refine Go.aload_n dLw_door_3 rfl (Nat.ne_of_beq_eq_false rfl) ?_
  refine Go.iload_n dLw_door_4 rfl ?_
  refine Go.iload_n dLw_door_5 rfl ?_
  refine Go.iload_n dLw_door_6 rfl ?_
  refine Go.callV (bc := 0) (bs := 0) (bc2 := 5) (bs2 := 30) (rd2 := false) false mBk_door [vI x0, vI x1, vI x2] dLw_door_7 vwLw_7 (Nat.le_of_ble_eq_true rfl) rfl rfl (Nat.le_of_ble_eq_true rfl) (ma_nls rfl) (Nat.le_of_ble_eq_true rfl) (fun hc => nomatch hc) (w_Bk_door (d := d) K x0 x1 x2) (fun h1 hq => ?_) (fun v h1 hq => ?_) (fun k h1 hq => ?_)
  · obtain ⟨_, e, _⟩ | ⟨_, _, e, _⟩ := hq <;> cases e
  · obtain ⟨v1, e, q⟩ | ⟨_, _, e, _⟩ := hq
    · cases e
      have qp := q.lp R l
      have l1 : h1.2.2.2.1 101 0 = 1 := qp.elim (fun _ z => z.2.2.1)
      refine Go.i2l dLw_door_10 ?_
      refine Go.last (jn := 0) dLw_door_11 rfl (by rw [l1]; decide) (by decide) ?_
      refine Go.goto (tgt := 23) dLw_door_12 (by decide) ?_
      refine Go.iconst (v := nI 0) dLw_door_23 (by decide) ?_
      refine Go.iret dLw_door_24 rfl rfl (by decide) ?_
      exact ⟨_, rfl, qp.long⟩
    · cases e
  · obtain ⟨_, e, _⟩ | ⟨k1, hk, e, rfl⟩ := hq
    · cases e
    · cases e
      have qp := (KB.wb K).lp R l
      simp only [List.mem_cons, List.not_mem_nil, or_false] at hk
      rcases hk with rfl | rfl
      · refine Or.inr ⟨15, hf_door_1, ?_⟩
        refine Go.astore dLw_door_15 (by decide) rfl ?_
        refine Go.iconst (v := nI 1) dLw_door_17 (by decide) ?_
        refine Go.iret dLw_door_18 rfl rfl (by decide) ?_
        exact ⟨_, rfl, qp⟩
      · refine Or.inr ⟨19, hf_door_2, ?_⟩
        refine Go.astore dLw_door_19 (by decide) rfl ?_
        refine Go.iconst (v := nI 2) dLw_door_21 (by decide) ?_
        refine Go.iret dLw_door_22 rfl rfl (by decide) ?_
        exact ⟨_, rfl, qp⟩
theorem hf_truck_1 : ma_hf mLw_truck 9 1 17 := Or.inr ⟨rfl, by decide, ma_en 1, ma_in (by decide +kernel) rfl, Or.inl ⟨rfl, rfl⟩⟩
theorem hf_truck_2 : ma_hf mLw_truck 9 2 21 := Or.inr ⟨rfl, by decide, ma_en 1, ma_in (by decide +kernel) rfl, Or.inr ⟨⟨1, rfl, by decide, by decide, by decide, by decide, by decide⟩, Or.inr ⟨rfl, by decide, ma_en 2, ma_in (by decide +kernel) rfl, Or.inl ⟨rfl, rfl⟩⟩⟩⟩
set_option maxHeartbeats 4000000 in
theorem g_Lw_truck {sc : Nat × (Nat → Int32)} {d : Nat} {G : GB} {G' : GR} {h : AH} (K : KB G h h) (R : KR G' h h) (l : h.2.2.2.1 101 0 = 1) (x0 x1 x2 x3 : Int32) : Go sc true false (d + 21) 5 30 mLw_truck 0 [vO 4 (0), vI x0, vI x1, vI x2, vI x3, vO 101 0, vU] [] h (PV (fun v h' => (ok_truck x0 x1 x2 x3 ∧ G.1.2 < 12 ∧ v = 0 ∧ h'.2.2.1 101 0 0 = (nI G.1.2).toInt64 ∧ KB ((G.1.1, G.1.2 + 1), G.2) h' h' ∧ KR G' h' h' ∧ h'.2.2.2.1 101 0 = 1) ∨ (ok_truck x0 x1 x2 x3 ∧ G.1.2 = 12 ∧ v = 2 ∧ h' = h) ∨ (¬ ok_truck x0 x1 x2 x3 ∧ v = 1 ∧ h' = h))) := by
  refine Go.aload dLw_truck_0 rfl (Nat.ne_of_beq_eq_false rfl) ?_
  refine Go.iconst (v := nI 0) dLw_truck_2 (by decide) ?_
  refine Go.aload_n dLw_truck_3 rfl (Nat.ne_of_beq_eq_false rfl) ?_
  refine Go.iload_n dLw_truck_4 rfl ?_
  refine Go.iload_n dLw_truck_5 rfl ?_
  refine Go.iload_n dLw_truck_6 rfl ?_
  refine Go.iload dLw_truck_7 rfl ?_
  refine Go.callV (bc := 0) (bs := 0) (bc2 := 5) (bs2 := 30) (rd2 := false) false mBk_truck [vI x0, vI x1, vI x2, vI x3] dLw_truck_9 vwLw_17 (Nat.le_of_ble_eq_true rfl) rfl rfl (Nat.le_of_ble_eq_true rfl) (ma_nls rfl) (Nat.le_of_ble_eq_true rfl) (fun hc => nomatch hc) (w_Bk_truck (d := d) K x0 x1 x2 x3) (fun h1 hq => ?_) (fun v h1 hq => ?_) (fun k h1 hq => ?_)
  · rcases hq with ⟨_, _, e, _⟩ | ⟨_, _, e, _⟩ | ⟨_, e, _⟩ <;> cases e
  · rcases hq with ⟨z, hn, e, K2⟩ | ⟨_, _, e, _⟩ | ⟨_, e, _⟩
    · cases e
      have l1 := K2.fr.len l
      refine Go.i2l dLw_truck_12 ?_
      refine Go.last (jn := 0) dLw_truck_13 rfl (by rw [l1]; decide) (by decide) ?_
      refine Go.goto (tgt := 25) dLw_truck_14 (by decide) ?_
      refine Go.iconst (v := nI 0) dLw_truck_25 (by decide) ?_
      refine Go.iret dLw_truck_26 rfl rfl (by decide) ?_
      exact ⟨_, rfl, Or.inl ⟨z, hn, rfl, ma_up_self h1.2.2.1 101 0 0 _, K2.long, (R.keep K2.fr).long, l1⟩⟩
    · cases e
    · cases e
  · rcases hq with ⟨_, _, e, _⟩ | ⟨z, hn, e, rfl⟩ | ⟨z, e, rfl⟩
    · cases e
    · cases e
      refine Or.inr ⟨21, hf_truck_2, ?_⟩
      refine Go.astore dLw_truck_21 (by decide) rfl ?_
      refine Go.iconst (v := nI 2) dLw_truck_23 (by decide) ?_
      refine Go.iret dLw_truck_24 rfl rfl (by decide) ?_
      exact ⟨_, rfl, Or.inr (Or.inl ⟨z, hn, rfl, rfl⟩)⟩
    · cases e
      refine Or.inr ⟨17, hf_truck_1, ?_⟩
      refine Go.astore dLw_truck_17 (by decide) rfl ?_
      refine Go.iconst (v := nI 1) dLw_truck_19 (by decide) ?_
      refine Go.iret dLw_truck_20 rfl rfl (by decide) ?_
      exact ⟨_, rfl, Or.inr (Or.inr ⟨z, rfl, rfl⟩)⟩
theorem hf_assign_1 : ma_hf mLw_assign 4 1 12 := Or.inr ⟨rfl, by decide, ma_en 1, ma_in (by decide +kernel) rfl, Or.inl ⟨rfl, rfl⟩⟩
set_option maxHeartbeats 4000000 in
theorem g_Lw_assign {sc : Nat × (Nat → Int32)} {d : Nat} {G : GB} {G' : GR} {h : AH} (K : KB G h h) (R : KR G' h h) (l : h.2.2.2.1 101 0 = 1) (x0 : Int32) : Go sc true false (d + 21) 5 30 mLw_assign 0 [vO 4 (0), vI x0, vO 101 0, vU] [] h (PV (fun _ => LQ G G')) := by
  refine Go.aload_n dLw_assign_0 rfl (Nat.ne_of_beq_eq_false rfl) ?_
  refine Go.iconst (v := nI 0) dLw_assign_1 (by decide) ?_
  refine Go.aload_n dLw_assign_2 rfl (Nat.ne_of_beq_eq_false rfl) ?_
  refine Go.iload_n dLw_assign_3 rfl ?_
  refine Go.callV (bc := 0) (bs := 0) (bc2 := 5) (bs2 := 30) (rd2 := false) false mBk_assign [vI x0] dLw_assign_4 vwLw_21 (Nat.le_of_ble_eq_true rfl) rfl rfl (Nat.le_of_ble_eq_true rfl) (ma_nls rfl) (Nat.le_of_ble_eq_true rfl) (fun hc => nomatch hc) (w_Bk_assign (d := d) K x0) (fun h1 hq => ?_) (fun v h1 hq => ?_) (fun k h1 hq => ?_)
  · obtain ⟨_, e, _⟩ | ⟨_, _, e, _⟩ := hq <;> cases e
  · obtain ⟨v1, e, q⟩ | ⟨_, _, e, _⟩ := hq
    · cases e
      have qp := q.lp R l
      have l1 : h1.2.2.2.1 101 0 = 1 := qp.elim (fun _ z => z.2.2.1)
      refine Go.i2l dLw_assign_7 ?_
      refine Go.last (jn := 0) dLw_assign_8 rfl (by rw [l1]; decide) (by decide) ?_
      refine Go.goto (tgt := 15) dLw_assign_9 (by decide) ?_
      refine Go.iconst (v := nI 0) dLw_assign_15 (by decide) ?_
      refine Go.iret dLw_assign_16 rfl rfl (by decide) ?_
      exact ⟨_, rfl, qp.long⟩
    · cases e
  · obtain ⟨_, e, _⟩ | ⟨k1, hk, e, rfl⟩ := hq
    · cases e
    · cases e
      have qp := (KB.wb K).lp R l
      simp only [List.mem_cons, List.not_mem_nil, or_false] at hk
      subst hk
      refine Or.inr ⟨12, hf_assign_1, ?_⟩
      refine Go.astore_n dLw_assign_12 (by decide) rfl ?_
      refine Go.iconst (v := nI 1) dLw_assign_13 (by decide) ?_
      refine Go.iret dLw_assign_14 rfl rfl (by decide) ?_
      exact ⟨_, rfl, qp⟩
theorem hf_call_3 : ma_hf mLw_call 2 3 8 := Or.inr ⟨rfl, by decide, ma_en 3, ma_in (by decide +kernel) rfl, Or.inl ⟨rfl, rfl⟩⟩
theorem hf_call_4 : ma_hf mLw_call 2 4 11 := Or.inr ⟨rfl, by decide, ma_en 3, ma_in (by decide +kernel) rfl, Or.inr ⟨⟨3, rfl, by decide, by decide, by decide, by decide, by decide⟩, Or.inr ⟨rfl, by decide, ma_en 4, ma_in (by decide +kernel) rfl, Or.inl ⟨rfl, rfl⟩⟩⟩⟩
set_option maxHeartbeats 4000000 in
theorem g_Lw_call {sc : Nat × (Nat → Int32)} {d : Nat} {G : GB} {G' : GR} {h : AH} (K : KB G h h) (R : KR G' h h) (l : h.2.2.2.1 101 0 = 1) (x0 : Int32) : Go sc true false (d + 21) 5 30 mLw_call 0 [vO 4 (0), vI x0, vU] [] h (PV (fun _ => LQ G G')) := by
  refine Go.aload_n dLw_call_0 rfl (Nat.ne_of_beq_eq_false rfl) ?_
  refine Go.iload_n dLw_call_1 rfl ?_
  refine Go.callV (bc := 0) (bs := 0) (bc2 := 5) (bs2 := 30) (rd2 := false) false mBk_call [vI x0] dLw_call_2 vwLw_25 (Nat.le_of_ble_eq_true rfl) rfl rfl (Nat.le_of_ble_eq_true rfl) (ma_nls rfl) (Nat.le_of_ble_eq_true rfl) (fun hc => nomatch hc) (w_Bk_call (d := d) K x0) (fun h1 hq => ?_) (fun v h1 hq => ?_) (fun k h1 hq => ?_)
  · obtain ⟨e, q⟩ | ⟨_, _, e, _⟩ := hq
    · have qp := q.lp R l
      refine Go.goto (tgt := 14) dLw_call_5 (by decide) ?_
      refine Go.iconst (v := nI 0) dLw_call_14 (by decide) ?_
      refine Go.iret dLw_call_15 rfl rfl (by decide) ?_
      exact ⟨_, rfl, qp⟩
    · cases e
  · obtain ⟨e, _⟩ | ⟨_, _, e, _⟩ := hq <;> cases e
  · obtain ⟨e, _⟩ | ⟨k1, hk, e, rfl⟩ := hq
    · cases e
    · cases e
      have qp := (KB.wb K).lp R l
      simp only [List.mem_cons, List.not_mem_nil, or_false] at hk
      rcases hk with rfl | rfl
      · refine Or.inr ⟨8, hf_call_3, ?_⟩
        refine Go.astore_n dLw_call_8 (by decide) rfl ?_
        refine Go.iconst (v := nI 1) dLw_call_9 (by decide) ?_
        refine Go.iret dLw_call_10 rfl rfl (by decide) ?_
        exact ⟨_, rfl, qp⟩
      · refine Or.inr ⟨11, hf_call_4, ?_⟩
        refine Go.astore_n dLw_call_11 (by decide) rfl ?_
        refine Go.iconst (v := nI 2) dLw_call_12 (by decide) ?_
        refine Go.iret dLw_call_13 rfl rfl (by decide) ?_
        exact ⟨_, rfl, qp⟩
theorem hf_seal_3 : ma_hf mLw_seal 5 3 13 := Or.inr ⟨rfl, by decide, ma_en 3, ma_in (by decide +kernel) rfl, Or.inl ⟨rfl, rfl⟩⟩
theorem hf_seal_1 : ma_hf mLw_seal 5 1 17 := Or.inr ⟨rfl, by decide, ma_en 3, ma_in (by decide +kernel) rfl, Or.inr ⟨⟨3, rfl, by decide, by decide, by decide, by decide, by decide⟩, Or.inr ⟨rfl, by decide, ma_en 1, ma_in (by decide +kernel) rfl, Or.inl ⟨rfl, rfl⟩⟩⟩⟩
theorem hf_seal_4 : ma_hf mLw_seal 5 4 21 := Or.inr ⟨rfl, by decide, ma_en 3, ma_in (by decide +kernel) rfl, Or.inr ⟨⟨3, rfl, by decide, by decide, by decide, by decide, by decide⟩, Or.inr ⟨rfl, by decide, ma_en 1, ma_in (by decide +kernel) rfl, Or.inr ⟨⟨1, rfl, by decide, by decide, by decide, by decide, by decide⟩, Or.inr ⟨rfl, by decide, ma_en 4, ma_in (by decide +kernel) rfl, Or.inl ⟨rfl, rfl⟩⟩⟩⟩⟩⟩
set_option maxHeartbeats 4000000 in
theorem g_Lw_seal {sc : Nat × (Nat → Int32)} {d : Nat} {G : GB} {G' : GR} {h : AH} (K : KB G h h) (R : KR G' h h) (l : h.2.2.2.1 101 0 = 1) (x0 x1 : Int32) : Go sc true false (d + 21) 5 30 mLw_seal 0 [vO 4 (0), vI x0, vI x1, vO 101 0, vU] [] h (PV (fun _ => LQ G G')) := by
  refine Go.aload_n dLw_seal_0 rfl (Nat.ne_of_beq_eq_false rfl) ?_
  refine Go.iconst (v := nI 0) dLw_seal_1 (by decide) ?_
  refine Go.aload_n dLw_seal_2 rfl (Nat.ne_of_beq_eq_false rfl) ?_
  refine Go.iload_n dLw_seal_3 rfl ?_
  refine Go.iload_n dLw_seal_4 rfl ?_
  refine Go.callV (bc := 0) (bs := 0) (bc2 := 5) (bs2 := 30) (rd2 := false) false mBk_seal [vI x0, vI x1] dLw_seal_5 vwLw_33 (Nat.le_of_ble_eq_true rfl) rfl rfl (Nat.le_of_ble_eq_true rfl) (ma_nls rfl) (Nat.le_of_ble_eq_true rfl) (fun hc => nomatch hc) (w_Bk_seal (d := d) K x0 x1) (fun h1 hq => ?_) (fun v h1 hq => ?_) (fun k h1 hq => ?_)
  · obtain ⟨_, e, _⟩ | ⟨_, _, e, _⟩ := hq <;> cases e
  · obtain ⟨v1, e, q⟩ | ⟨_, _, e, _⟩ := hq
    · cases e
      have qp := q.lp R l
      have l1 : h1.2.2.2.1 101 0 = 1 := qp.elim (fun _ z => z.2.2.1)
      refine Go.i2l dLw_seal_8 ?_
      refine Go.last (jn := 0) dLw_seal_9 rfl (by rw [l1]; decide) (by decide) ?_
      refine Go.goto (tgt := 25) dLw_seal_10 (by decide) ?_
      refine Go.iconst (v := nI 0) dLw_seal_25 (by decide) ?_
      refine Go.iret dLw_seal_26 rfl rfl (by decide) ?_
      exact ⟨_, rfl, qp.long⟩
    · cases e
  · obtain ⟨_, e, _⟩ | ⟨k1, hk, e, rfl⟩ := hq
    · cases e
    · cases e
      have qp := (KB.wb K).lp R l
      simp only [List.mem_cons, List.not_mem_nil, or_false] at hk
      rcases hk with rfl | rfl | rfl
      · refine Or.inr ⟨13, hf_seal_3, ?_⟩
        refine Go.astore dLw_seal_13 (by decide) rfl ?_
        refine Go.iconst (v := nI 1) dLw_seal_15 (by decide) ?_
        refine Go.iret dLw_seal_16 rfl rfl (by decide) ?_
        exact ⟨_, rfl, qp⟩
      · refine Or.inr ⟨17, hf_seal_1, ?_⟩
        refine Go.astore dLw_seal_17 (by decide) rfl ?_
        refine Go.iconst (v := nI 2) dLw_seal_19 (by decide) ?_
        refine Go.iret dLw_seal_20 rfl rfl (by decide) ?_
        exact ⟨_, rfl, qp⟩
      · refine Or.inr ⟨21, hf_seal_4, ?_⟩
        refine Go.astore dLw_seal_21 (by decide) rfl ?_
        refine Go.iconst (v := nI 3) dLw_seal_23 (by decide) ?_
        refine Go.iret dLw_seal_24 rfl rfl (by decide) ?_
        exact ⟨_, rfl, qp⟩
theorem hf_load_3 : ma_hf mLw_load 7 3 22 := Or.inr ⟨rfl, by decide, ma_en 3, ma_in (by decide +kernel) rfl, Or.inl ⟨rfl, rfl⟩⟩
theorem hf_load_1 : ma_hf mLw_load 7 1 26 := Or.inr ⟨rfl, by decide, ma_en 3, ma_in (by decide +kernel) rfl, Or.inr ⟨⟨3, rfl, by decide, by decide, by decide, by decide, by decide⟩, Or.inr ⟨rfl, by decide, ma_en 1, ma_in (by decide +kernel) rfl, Or.inl ⟨rfl, rfl⟩⟩⟩⟩
theorem hf_load_4 : ma_hf mLw_load 7 4 30 := Or.inr ⟨rfl, by decide, ma_en 3, ma_in (by decide +kernel) rfl, Or.inr ⟨⟨3, rfl, by decide, by decide, by decide, by decide, by decide⟩, Or.inr ⟨rfl, by decide, ma_en 1, ma_in (by decide +kernel) rfl, Or.inr ⟨⟨1, rfl, by decide, by decide, by decide, by decide, by decide⟩, Or.inr ⟨rfl, by decide, ma_en 4, ma_in (by decide +kernel) rfl, Or.inl ⟨rfl, rfl⟩⟩⟩⟩⟩⟩
set_option maxHeartbeats 4000000 in
theorem g_Lw_load {sc : Nat × (Nat → Int32)} {d : Nat} {G : GB} {G' : GR} {h : AH} (K : KB G h h) (R : KR G' h h) (l : h.2.2.2.1 101 0 = 1) (x0 x1 x2 : Int32) : Go sc true false (d + 21) 5 30 mLw_load 0 [vO 4 (0), vI x0, vI x1, vI x2, vO 101 0, vU] [] h (PV (fun _ => LQ G G')) := by
  refine Go.aload dLw_load_0 rfl (Nat.ne_of_beq_eq_false rfl) ?_
  refine Go.iconst (v := nI 0) dLw_load_2 (by decide) ?_
  refine Go.aload_n dLw_load_3 rfl (Nat.ne_of_beq_eq_false rfl) ?_
  refine Go.iload_n dLw_load_4 rfl ?_
  refine Go.iload_n dLw_load_5 rfl ?_
  refine Go.iload_n dLw_load_6 rfl ?_
  refine Go.callV (bc := 0) (bs := 0) (bc2 := 5) (bs2 := 30) (rd2 := false) false mBk_load [vI x0, vI x1, vI x2] dLw_load_7 vwLw_37 (Nat.le_of_ble_eq_true rfl) rfl rfl (Nat.le_of_ble_eq_true rfl) (ma_nls rfl) (Nat.le_of_ble_eq_true rfl) (fun hc => nomatch hc) (w_Bk_load (d := d) K x0 x1 x2) (fun h1 hq => ?_) (fun v h1 hq => ?_) (fun k h1 hq => ?_)
  · obtain ⟨_, e, _⟩ | ⟨_, _, e, _⟩ := hq <;> cases e
  · obtain ⟨v1, e, q⟩ | ⟨_, _, e, _⟩ := hq
    · cases e
      have qp := q.lp R l
      have l1 : h1.2.2.2.1 101 0 = 1 := qp.elim (fun _ z => z.2.2.1)
      refine Go.if_eq (tgt := 17) dLw_load_10 (by decide) (fun q1 => ?_) (fun q1 => ?_)
      · refine Go.lconst dLw_load_17 rfl ?_
        refine Go.last (jn := 0) dLw_load_18 rfl (by rw [l1]; decide) (by decide) ?_
        refine Go.goto (tgt := 34) dLw_load_19 (by decide) ?_
        refine Go.iconst (v := nI 0) dLw_load_34 (by decide) ?_
        refine Go.iret dLw_load_35 rfl rfl (by decide) ?_
        exact ⟨_, rfl, qp.long⟩
      · refine Go.lconst dLw_load_13 rfl ?_
        refine Go.goto (tgt := 18) dLw_load_14 (by decide) ?_
        refine Go.last (jn := 0) dLw_load_18 rfl (by rw [l1]; decide) (by decide) ?_
        refine Go.goto (tgt := 34) dLw_load_19 (by decide) ?_
        refine Go.iconst (v := nI 0) dLw_load_34 (by decide) ?_
        refine Go.iret dLw_load_35 rfl rfl (by decide) ?_
        exact ⟨_, rfl, qp.long⟩
    · cases e
  · obtain ⟨_, e, _⟩ | ⟨k1, hk, e, rfl⟩ := hq
    · cases e
    · cases e
      have qp := (KB.wb K).lp R l
      simp only [List.mem_cons, List.not_mem_nil, or_false] at hk
      rcases hk with rfl | rfl | rfl
      · refine Or.inr ⟨22, hf_load_3, ?_⟩
        refine Go.astore dLw_load_22 (by decide) rfl ?_
        refine Go.iconst (v := nI 1) dLw_load_24 (by decide) ?_
        refine Go.iret dLw_load_25 rfl rfl (by decide) ?_
        exact ⟨_, rfl, qp⟩
      · refine Or.inr ⟨26, hf_load_1, ?_⟩
        refine Go.astore dLw_load_26 (by decide) rfl ?_
        refine Go.iconst (v := nI 2) dLw_load_28 (by decide) ?_
        refine Go.iret dLw_load_29 rfl rfl (by decide) ?_
        exact ⟨_, rfl, qp⟩
      · refine Or.inr ⟨30, hf_load_4, ?_⟩
        refine Go.astore dLw_load_30 (by decide) rfl ?_
        refine Go.iconst (v := nI 3) dLw_load_32 (by decide) ?_
        refine Go.iret dLw_load_33 rfl rfl (by decide) ?_
        exact ⟨_, rfl, qp⟩
theorem hf_depart_3 : ma_hf mLw_depart 4 3 12 := Or.inr ⟨rfl, by decide, ma_en 3, ma_in (by decide +kernel) rfl, Or.inl ⟨rfl, rfl⟩⟩
theorem hf_depart_4 : ma_hf mLw_depart 4 4 15 := Or.inr ⟨rfl, by decide, ma_en 3, ma_in (by decide +kernel) rfl, Or.inr ⟨⟨3, rfl, by decide, by decide, by decide, by decide, by decide⟩, Or.inr ⟨rfl, by decide, ma_en 4, ma_in (by decide +kernel) rfl, Or.inl ⟨rfl, rfl⟩⟩⟩⟩
set_option maxHeartbeats 4000000 in
theorem g_Lw_depart {sc : Nat × (Nat → Int32)} {d : Nat} {G : GB} {G' : GR} {h : AH} (K : KB G h h) (R : KR G' h h) (l : h.2.2.2.1 101 0 = 1) (x0 : Int32) : Go sc true false (d + 21) 5 30 mLw_depart 0 [vO 4 (0), vI x0, vO 101 0, vU] [] h (PV (fun _ => LQ G G')) := by
  refine Go.aload_n dLw_depart_0 rfl (Nat.ne_of_beq_eq_false rfl) ?_
  refine Go.iconst (v := nI 0) dLw_depart_1 (by decide) ?_
  refine Go.aload_n dLw_depart_2 rfl (Nat.ne_of_beq_eq_false rfl) ?_
  refine Go.iload_n dLw_depart_3 rfl ?_
  refine Go.callV (bc := 0) (bs := 0) (bc2 := 5) (bs2 := 30) (rd2 := false) false mBk_depart [vI x0] dLw_depart_4 vwLw_41 (Nat.le_of_ble_eq_true rfl) rfl rfl (Nat.le_of_ble_eq_true rfl) (ma_nls rfl) (Nat.le_of_ble_eq_true rfl) (fun hc => nomatch hc) (w_Bk_depart (d := d) K x0) (fun h1 hq => ?_) (fun v h1 hq => ?_) (fun k h1 hq => ?_)
  · obtain ⟨_, e, _⟩ | ⟨_, _, e, _⟩ := hq <;> cases e
  · obtain ⟨v1, e, q⟩ | ⟨_, _, e, _⟩ := hq
    · cases e
      have qp := q.lp R l
      have l1 : h1.2.2.2.1 101 0 = 1 := qp.elim (fun _ z => z.2.2.1)
      refine Go.i2l dLw_depart_7 ?_
      refine Go.last (jn := 0) dLw_depart_8 rfl (by rw [l1]; decide) (by decide) ?_
      refine Go.goto (tgt := 18) dLw_depart_9 (by decide) ?_
      refine Go.iconst (v := nI 0) dLw_depart_18 (by decide) ?_
      refine Go.iret dLw_depart_19 rfl rfl (by decide) ?_
      exact ⟨_, rfl, qp.long⟩
    · cases e
  · obtain ⟨_, e, _⟩ | ⟨k1, hk, e, rfl⟩ := hq
    · cases e
    · cases e
      have qp := (KB.wb K).lp R l
      simp only [List.mem_cons, List.not_mem_nil, or_false] at hk
      rcases hk with rfl | rfl
      · refine Or.inr ⟨12, hf_depart_3, ?_⟩
        refine Go.astore_n dLw_depart_12 (by decide) rfl ?_
        refine Go.iconst (v := nI 1) dLw_depart_13 (by decide) ?_
        refine Go.iret dLw_depart_14 rfl rfl (by decide) ?_
        exact ⟨_, rfl, qp⟩
      · refine Or.inr ⟨15, hf_depart_4, ?_⟩
        refine Go.astore_n dLw_depart_15 (by decide) rfl ?_
        refine Go.iconst (v := nI 2) dLw_depart_16 (by decide) ?_
        refine Go.iret dLw_depart_17 rfl rfl (by decide) ?_
        exact ⟨_, rfl, qp⟩
theorem hf_late_3 : ma_hf mLw_late 5 3 20 := Or.inr ⟨rfl, by decide, ma_en 3, ma_in (by decide +kernel) rfl, Or.inl ⟨rfl, rfl⟩⟩
theorem hf_late_1 : ma_hf mLw_late 5 1 24 := Or.inr ⟨rfl, by decide, ma_en 3, ma_in (by decide +kernel) rfl, Or.inr ⟨⟨3, rfl, by decide, by decide, by decide, by decide, by decide⟩, Or.inr ⟨rfl, by decide, ma_en 1, ma_in (by decide +kernel) rfl, Or.inl ⟨rfl, rfl⟩⟩⟩⟩
theorem hf_late_4 : ma_hf mLw_late 5 4 28 := Or.inr ⟨rfl, by decide, ma_en 3, ma_in (by decide +kernel) rfl, Or.inr ⟨⟨3, rfl, by decide, by decide, by decide, by decide, by decide⟩, Or.inr ⟨rfl, by decide, ma_en 1, ma_in (by decide +kernel) rfl, Or.inr ⟨⟨1, rfl, by decide, by decide, by decide, by decide, by decide⟩, Or.inr ⟨rfl, by decide, ma_en 4, ma_in (by decide +kernel) rfl, Or.inl ⟨rfl, rfl⟩⟩⟩⟩⟩⟩
set_option maxHeartbeats 4000000 in
theorem g_Lw_late {sc : Nat × (Nat → Int32)} {d : Nat} {G : GB} {G' : GR} {h : AH} (K : KB G h h) (R : KR G' h h) (l : h.2.2.2.1 101 0 = 1) (x0 x1 : Int32) : Go sc true false (d + 21) 5 30 mLw_late 0 [vO 4 (0), vI x0, vI x1, vO 101 0, vU] [] h (PV (fun _ => LQ G G')) := by
  refine Go.aload_n dLw_late_0 rfl (Nat.ne_of_beq_eq_false rfl) ?_
  refine Go.iconst (v := nI 0) dLw_late_1 (by decide) ?_
  refine Go.aload_n dLw_late_2 rfl (Nat.ne_of_beq_eq_false rfl) ?_
  refine Go.iload_n dLw_late_3 rfl ?_
  refine Go.iload_n dLw_late_4 rfl ?_
  refine Go.callV (bc := 0) (bs := 0) (bc2 := 5) (bs2 := 30) (rd2 := false) false mBk_late [vI x0, vI x1] dLw_late_5 vwLw_44 (Nat.le_of_ble_eq_true rfl) rfl rfl (Nat.le_of_ble_eq_true rfl) (ma_nls rfl) (Nat.le_of_ble_eq_true rfl) (fun hc => nomatch hc) (w_Bk_late (d := d) K x0 x1) (fun h1 hq => ?_) (fun v h1 hq => ?_) (fun k h1 hq => ?_)
  · obtain ⟨_, e, _⟩ | ⟨_, _, e, _⟩ := hq <;> cases e
  · obtain ⟨v1, e, q⟩ | ⟨_, _, e, _⟩ := hq
    · cases e
      have qp := q.lp R l
      have l1 : h1.2.2.2.1 101 0 = 1 := qp.elim (fun _ z => z.2.2.1)
      refine Go.if_eq (tgt := 15) dLw_late_8 (by decide) (fun q2 => ?_) (fun q2 => ?_)
      · refine Go.lconst dLw_late_15 rfl ?_
        refine Go.last (jn := 0) dLw_late_16 rfl (by rw [l1]; decide) (by decide) ?_
        refine Go.goto (tgt := 32) dLw_late_17 (by decide) ?_
        refine Go.iconst (v := nI 0) dLw_late_32 (by decide) ?_
        refine Go.iret dLw_late_33 rfl rfl (by decide) ?_
        exact ⟨_, rfl, qp.long⟩
      · refine Go.lconst dLw_late_11 rfl ?_
        refine Go.goto (tgt := 16) dLw_late_12 (by decide) ?_
        refine Go.last (jn := 0) dLw_late_16 rfl (by rw [l1]; decide) (by decide) ?_
        refine Go.goto (tgt := 32) dLw_late_17 (by decide) ?_
        refine Go.iconst (v := nI 0) dLw_late_32 (by decide) ?_
        refine Go.iret dLw_late_33 rfl rfl (by decide) ?_
        exact ⟨_, rfl, qp.long⟩
    · cases e
  · obtain ⟨_, e, _⟩ | ⟨k1, hk, e, rfl⟩ := hq
    · cases e
    · cases e
      have qp := (KB.wb K).lp R l
      simp only [List.mem_cons, List.not_mem_nil, or_false] at hk
      rcases hk with rfl | rfl | rfl
      · refine Or.inr ⟨20, hf_late_3, ?_⟩
        refine Go.astore dLw_late_20 (by decide) rfl ?_
        refine Go.iconst (v := nI 1) dLw_late_22 (by decide) ?_
        refine Go.iret dLw_late_23 rfl rfl (by decide) ?_
        exact ⟨_, rfl, qp⟩
      · refine Or.inr ⟨24, hf_late_1, ?_⟩
        refine Go.astore dLw_late_24 (by decide) rfl ?_
        refine Go.iconst (v := nI 2) dLw_late_26 (by decide) ?_
        refine Go.iret dLw_late_27 rfl rfl (by decide) ?_
        exact ⟨_, rfl, qp⟩
      · refine Or.inr ⟨28, hf_late_4, ?_⟩
        refine Go.astore dLw_late_28 (by decide) rfl ?_
        refine Go.iconst (v := nI 3) dLw_late_30 (by decide) ?_
        refine Go.iret dLw_late_31 rfl rfl (by decide) ?_
        exact ⟨_, rfl, qp⟩
theorem hf_cancel_3 : ma_hf mLw_cancel 2 3 8 := Or.inr ⟨rfl, by decide, ma_en 3, ma_in (by decide +kernel) rfl, Or.inl ⟨rfl, rfl⟩⟩
theorem hf_cancel_4 : ma_hf mLw_cancel 2 4 11 := Or.inr ⟨rfl, by decide, ma_en 3, ma_in (by decide +kernel) rfl, Or.inr ⟨⟨3, rfl, by decide, by decide, by decide, by decide, by decide⟩, Or.inr ⟨rfl, by decide, ma_en 4, ma_in (by decide +kernel) rfl, Or.inl ⟨rfl, rfl⟩⟩⟩⟩
set_option maxHeartbeats 4000000 in
theorem g_Lw_cancel {sc : Nat × (Nat → Int32)} {d : Nat} {G : GB} {G' : GR} {h : AH} (K : KB G h h) (R : KR G' h h) (l : h.2.2.2.1 101 0 = 1) (x0 : Int32) : Go sc true false (d + 21) 5 30 mLw_cancel 0 [vO 4 (0), vI x0, vU] [] h (PV (fun _ => LQ G G')) := by
  refine Go.aload_n dLw_cancel_0 rfl (Nat.ne_of_beq_eq_false rfl) ?_
  refine Go.iload_n dLw_cancel_1 rfl ?_
  refine Go.callV (bc := 0) (bs := 0) (bc2 := 5) (bs2 := 30) (rd2 := false) false mBk_cancel [vI x0] dLw_cancel_2 vwLw_48 (Nat.le_of_ble_eq_true rfl) rfl rfl (Nat.le_of_ble_eq_true rfl) (ma_nls rfl) (Nat.le_of_ble_eq_true rfl) (fun hc => nomatch hc) (w_Bk_cancel (d := d) K x0) (fun h1 hq => ?_) (fun v h1 hq => ?_) (fun k h1 hq => ?_)
  · obtain ⟨e, q⟩ | ⟨_, _, e, _⟩ := hq
    · have qp := q.lp R l
      refine Go.goto (tgt := 14) dLw_cancel_5 (by decide) ?_
      refine Go.iconst (v := nI 0) dLw_cancel_14 (by decide) ?_
      refine Go.iret dLw_cancel_15 rfl rfl (by decide) ?_
      exact ⟨_, rfl, qp⟩
    · cases e
  · obtain ⟨e, _⟩ | ⟨_, _, e, _⟩ := hq <;> cases e
  · obtain ⟨e, _⟩ | ⟨k1, hk, e, rfl⟩ := hq
    · cases e
    · cases e
      have qp := (KB.wb K).lp R l
      simp only [List.mem_cons, List.not_mem_nil, or_false] at hk
      rcases hk with rfl | rfl
      · refine Or.inr ⟨8, hf_cancel_3, ?_⟩
        refine Go.astore_n dLw_cancel_8 (by decide) rfl ?_
        refine Go.iconst (v := nI 1) dLw_cancel_9 (by decide) ?_
        refine Go.iret dLw_cancel_10 rfl rfl (by decide) ?_
        exact ⟨_, rfl, qp⟩
      · refine Or.inr ⟨11, hf_cancel_4, ?_⟩
        refine Go.astore_n dLw_cancel_11 (by decide) rfl ?_
        refine Go.iconst (v := nI 2) dLw_cancel_12 (by decide) ?_
        refine Go.iret dLw_cancel_13 rfl rfl (by decide) ?_
        exact ⟨_, rfl, qp⟩
theorem hf_out_3 : ma_hf mLw_out 5 3 13 := Or.inr ⟨rfl, by decide, ma_en 3, ma_in (by decide +kernel) rfl, Or.inl ⟨rfl, rfl⟩⟩
theorem hf_out_4 : ma_hf mLw_out 5 4 17 := Or.inr ⟨rfl, by decide, ma_en 3, ma_in (by decide +kernel) rfl, Or.inr ⟨⟨3, rfl, by decide, by decide, by decide, by decide, by decide⟩, Or.inr ⟨rfl, by decide, ma_en 4, ma_in (by decide +kernel) rfl, Or.inl ⟨rfl, rfl⟩⟩⟩⟩
set_option maxHeartbeats 4000000 in
theorem g_Lw_out {sc : Nat × (Nat → Int32)} {d : Nat} {G : GB} {G' : GR} {h : AH} (K : KB G h h) (R : KR G' h h) (l : h.2.2.2.1 101 0 = 1) (x0 x1 : Int32) (hy : x1 = 0 ∨ x1 = 1) : Go sc true false (d + 21) 5 30 mLw_out 0 [vO 4 (0), vI x0, vI x1, vO 101 0, vU] [] h (PV (fun _ => LQ G G')) := by
  refine Go.aload_n dLw_out_0 rfl (Nat.ne_of_beq_eq_false rfl) ?_
  refine Go.iconst (v := nI 0) dLw_out_1 (by decide) ?_
  refine Go.aload_n dLw_out_2 rfl (Nat.ne_of_beq_eq_false rfl) ?_
  refine Go.iload_n dLw_out_3 rfl ?_
  refine Go.iload_n dLw_out_4 rfl ?_
  refine Go.callV (bc := 0) (bs := 0) (bc2 := 5) (bs2 := 30) (rd2 := false) false mBk_out [vI x0, vI x1] dLw_out_5 vwLw_51 (Nat.le_of_ble_eq_true rfl) rfl rfl (Nat.le_of_ble_eq_true rfl) (ma_nls rfl) (Nat.le_of_ble_eq_true rfl) (fun hc => nomatch hc) (w_Bk_out (d := d) K x0 x1 hy) (fun h1 hq => ?_) (fun v h1 hq => ?_) (fun k h1 hq => ?_)
  · obtain ⟨_, e, _⟩ | ⟨_, _, e, _⟩ := hq <;> cases e
  · obtain ⟨v1, e, q⟩ | ⟨_, _, e, _⟩ := hq
    · cases e
      have qp := q.lp R l
      have l1 : h1.2.2.2.1 101 0 = 1 := qp.elim (fun _ z => z.2.2.1)
      refine Go.i2l dLw_out_8 ?_
      refine Go.last (jn := 0) dLw_out_9 rfl (by rw [l1]; decide) (by decide) ?_
      refine Go.goto (tgt := 21) dLw_out_10 (by decide) ?_
      refine Go.iconst (v := nI 0) dLw_out_21 (by decide) ?_
      refine Go.iret dLw_out_22 rfl rfl (by decide) ?_
      exact ⟨_, rfl, qp.long⟩
    · cases e
  · obtain ⟨_, e, _⟩ | ⟨k1, hk, e, rfl⟩ := hq
    · cases e
    · cases e
      have qp := (KB.wb K).lp R l
      simp only [List.mem_cons, List.not_mem_nil, or_false] at hk
      rcases hk with rfl | rfl
      · refine Or.inr ⟨13, hf_out_3, ?_⟩
        refine Go.astore dLw_out_13 (by decide) rfl ?_
        refine Go.iconst (v := nI 1) dLw_out_15 (by decide) ?_
        refine Go.iret dLw_out_16 rfl rfl (by decide) ?_
        exact ⟨_, rfl, qp⟩
      · refine Or.inr ⟨17, hf_out_4, ?_⟩
        refine Go.astore dLw_out_17 (by decide) rfl ?_
        refine Go.iconst (v := nI 2) dLw_out_19 (by decide) ?_
        refine Go.iret dLw_out_20 rfl rfl (by decide) ?_
        exact ⟨_, rfl, qp⟩
theorem hf_pass_1 : ma_hf mLw_pass 2 1 8 := Or.inr ⟨rfl, by decide, ma_en 1, ma_in (by decide +kernel) rfl, Or.inl ⟨rfl, rfl⟩⟩
set_option maxHeartbeats 4000000 in
theorem g_Lw_pass {sc : Nat × (Nat → Int32)} {d : Nat} {G : GB} {G' : GR} {h : AH} (K : KB G h h) (R : KR G' h h) (l : h.2.2.2.1 101 0 = 1) (x0 : Int32) : Go sc true false (d + 21) 5 30 mLw_pass 0 [vO 4 (0), vI x0, vU] [] h (PV (fun v h' => ((G.2 ≤ x0 ∧ x0 ≤ 2000) ∧ v = 0 ∧ KB (G.1, x0) h' h' ∧ KR G' h' h' ∧ h'.2.2.2.1 101 0 = 1) ∨ (¬ (G.2 ≤ x0 ∧ x0 ≤ 2000) ∧ v = 1 ∧ h' = h))) := by
  refine Go.aload_n dLw_pass_0 rfl (Nat.ne_of_beq_eq_false rfl) ?_
  refine Go.iload_n dLw_pass_1 rfl ?_
  refine Go.callV (bc := 0) (bs := 0) (bc2 := 5) (bs2 := 30) (rd2 := false) false mBk_pass [vI x0] dLw_pass_2 vwLw_55 (Nat.le_of_ble_eq_true rfl) rfl rfl (Nat.le_of_ble_eq_true rfl) (ma_nls rfl) (Nat.le_of_ble_eq_true rfl) (fun hc => nomatch hc) (w_Bk_pass (d := d) K x0) (fun h1 hq => ?_) (fun v h1 hq => ?_) (fun k h1 hq => ?_)
  · rcases hq with ⟨z, e, K2⟩ | ⟨_, e, _⟩
    · have l1 := K2.fr.len l
      refine Go.goto (tgt := 11) dLw_pass_5 (by decide) ?_
      refine Go.iconst (v := nI 0) dLw_pass_11 (by decide) ?_
      refine Go.iret dLw_pass_12 rfl rfl (by decide) ?_
      exact ⟨_, rfl, Or.inl ⟨z, rfl, K2.st0, R.keep K2.fr, l1⟩⟩
    · cases e
  · rcases hq with ⟨_, e, _⟩ | ⟨_, e, _⟩ <;> cases e
  · rcases hq with ⟨_, e, _⟩ | ⟨z, e, rfl⟩
    · cases e
    · cases e
      refine Or.inr ⟨8, hf_pass_1, ?_⟩
      refine Go.astore_n dLw_pass_8 (by decide) rfl ?_
      refine Go.iconst (v := nI 1) dLw_pass_9 (by decide) ?_
      refine Go.iret dLw_pass_10 rfl rfl (by decide) ?_
      exact ⟨_, rfl, Or.inr ⟨z, rfl, rfl⟩⟩
theorem hf_order_3 : ma_hf mLw_order 5 3 13 := Or.inr ⟨rfl, by decide, ma_en 3, ma_in (by decide +kernel) rfl, Or.inl ⟨rfl, rfl⟩⟩
set_option maxHeartbeats 4000000 in
theorem g_Lw_order {sc : Nat × (Nat → Int32)} {d : Nat} {G : GB} {G' : GR} {h : AH} (K : KB G h h) (R : KR G' h h) (l : h.2.2.2.1 101 0 = 1) (x0 x1 : Int32) : Go sc true false (d + 21) 5 30 mLw_order 0 [vO 4 (0), vI x0, vI x1, vO 101 0, vU] [] h (PV (fun _ => LQ G G')) := by
  refine Go.aload_n dLw_order_0 rfl (Nat.ne_of_beq_eq_false rfl) ?_
  refine Go.iconst (v := nI 0) dLw_order_1 (by decide) ?_
  refine Go.aload_n dLw_order_2 rfl (Nat.ne_of_beq_eq_false rfl) ?_
  refine Go.iload_n dLw_order_3 rfl ?_
  refine Go.iload_n dLw_order_4 rfl ?_
  refine Go.callV (bc := 0) (bs := 0) (bc2 := 5) (bs2 := 30) (rd2 := false) false mBk_order [vI x0, vI x1] dLw_order_5 vwLw_58 (Nat.le_of_ble_eq_true rfl) rfl rfl (Nat.le_of_ble_eq_true rfl) (ma_nls rfl) (Nat.le_of_ble_eq_true rfl) (fun hc => nomatch hc) (w_Bk_order (d := d) K x0 x1) (fun h1 hq => ?_) (fun v h1 hq => ?_) (fun k h1 hq => ?_)
  · obtain ⟨_, e, _⟩ | ⟨_, _, e, _⟩ := hq <;> cases e
  · obtain ⟨v1, e, q⟩ | ⟨_, _, e, _⟩ := hq
    · cases e
      have qp := q.lp R l
      have l1 : h1.2.2.2.1 101 0 = 1 := qp.elim (fun _ z => z.2.2.1)
      refine Go.i2l dLw_order_8 ?_
      refine Go.last (jn := 0) dLw_order_9 rfl (by rw [l1]; decide) (by decide) ?_
      refine Go.goto (tgt := 17) dLw_order_10 (by decide) ?_
      refine Go.iconst (v := nI 0) dLw_order_17 (by decide) ?_
      refine Go.iret dLw_order_18 rfl rfl (by decide) ?_
      exact ⟨_, rfl, qp.long⟩
    · cases e
  · obtain ⟨_, e, _⟩ | ⟨k1, hk, e, rfl⟩ := hq
    · cases e
    · cases e
      have qp := (KB.wb K).lp R l
      simp only [List.mem_cons, List.not_mem_nil, or_false] at hk
      subst hk
      refine Or.inr ⟨13, hf_order_3, ?_⟩
      refine Go.astore dLw_order_13 (by decide) rfl ?_
      refine Go.iconst (v := nI 1) dLw_order_15 (by decide) ?_
      refine Go.iret dLw_order_16 rfl rfl (by decide) ?_
      exact ⟨_, rfl, qp⟩
theorem hf_told_3 : ma_hf mLw_told 5 3 13 := Or.inr ⟨rfl, by decide, ma_en 3, ma_in (by decide +kernel) rfl, Or.inl ⟨rfl, rfl⟩⟩
theorem hf_told_1 : ma_hf mLw_told 5 1 17 := Or.inr ⟨rfl, by decide, ma_en 3, ma_in (by decide +kernel) rfl, Or.inr ⟨⟨3, rfl, by decide, by decide, by decide, by decide, by decide⟩, Or.inr ⟨rfl, by decide, ma_en 1, ma_in (by decide +kernel) rfl, Or.inl ⟨rfl, rfl⟩⟩⟩⟩
set_option maxHeartbeats 4000000 in
theorem g_Lw_told {sc : Nat × (Nat → Int32)} {d : Nat} {G : GB} {G' : GR} {h : AH} (K : KB G h h) (R : KR G' h h) (l : h.2.2.2.1 101 0 = 1) (x0 x1 : Int32) : Go sc true false (d + 21) 5 30 mLw_told 0 [vO 4 (0), vI x0, vI x1, vO 101 0, vU] [] h (PV (fun _ => LQ G G')) := by
  refine Go.aload_n dLw_told_0 rfl (Nat.ne_of_beq_eq_false rfl) ?_
  refine Go.iconst (v := nI 0) dLw_told_1 (by decide) ?_
  refine Go.aload_n dLw_told_2 rfl (Nat.ne_of_beq_eq_false rfl) ?_
  refine Go.iload_n dLw_told_3 rfl ?_
  refine Go.iload_n dLw_told_4 rfl ?_
  refine Go.callV (bc := 0) (bs := 0) (bc2 := 5) (bs2 := 30) (rd2 := false) false mBk_told [vI x0, vI x1] dLw_told_5 vwLw_61 (Nat.le_of_ble_eq_true rfl) rfl rfl (Nat.le_of_ble_eq_true rfl) (ma_nls rfl) (Nat.le_of_ble_eq_true rfl) (fun hc => nomatch hc) (w_Bk_told (d := d) K x0 x1) (fun h1 hq => ?_) (fun v h1 hq => ?_) (fun k h1 hq => ?_)
  · obtain ⟨_, e, _⟩ | ⟨_, _, e, _⟩ := hq <;> cases e
  · obtain ⟨v1, e, q⟩ | ⟨_, _, e, _⟩ := hq
    · cases e
      have qp := q.lp R l
      have l1 : h1.2.2.2.1 101 0 = 1 := qp.elim (fun _ z => z.2.2.1)
      refine Go.i2l dLw_told_8 ?_
      refine Go.last (jn := 0) dLw_told_9 rfl (by rw [l1]; decide) (by decide) ?_
      refine Go.goto (tgt := 21) dLw_told_10 (by decide) ?_
      refine Go.iconst (v := nI 0) dLw_told_21 (by decide) ?_
      refine Go.iret dLw_told_22 rfl rfl (by decide) ?_
      exact ⟨_, rfl, qp.long⟩
    · cases e
  · obtain ⟨_, e, _⟩ | ⟨k1, hk, e, rfl⟩ := hq
    · cases e
    · cases e
      have qp := (KB.wb K).lp R l
      simp only [List.mem_cons, List.not_mem_nil, or_false] at hk
      rcases hk with rfl | rfl
      · refine Or.inr ⟨13, hf_told_3, ?_⟩
        refine Go.astore dLw_told_13 (by decide) rfl ?_
        refine Go.iconst (v := nI 1) dLw_told_15 (by decide) ?_
        refine Go.iret dLw_told_16 rfl rfl (by decide) ?_
        exact ⟨_, rfl, qp⟩
      · refine Or.inr ⟨17, hf_told_1, ?_⟩
        refine Go.astore dLw_told_17 (by decide) rfl ?_
        refine Go.iconst (v := nI 2) dLw_told_19 (by decide) ?_
        refine Go.iret dLw_told_20 rfl rfl (by decide) ?_
        exact ⟨_, rfl, qp⟩
theorem hf_known_3 : ma_hf mLw_known 5 3 13 := Or.inr ⟨rfl, by decide, ma_en 3, ma_in (by decide +kernel) rfl, Or.inl ⟨rfl, rfl⟩⟩
theorem hf_known_1 : ma_hf mLw_known 5 1 17 := Or.inr ⟨rfl, by decide, ma_en 3, ma_in (by decide +kernel) rfl, Or.inr ⟨⟨3, rfl, by decide, by decide, by decide, by decide, by decide⟩, Or.inr ⟨rfl, by decide, ma_en 1, ma_in (by decide +kernel) rfl, Or.inl ⟨rfl, rfl⟩⟩⟩⟩
set_option maxHeartbeats 4000000 in
theorem g_Lw_known {sc : Nat × (Nat → Int32)} {d : Nat} {G : GB} {G' : GR} {h : AH} (K : KB G h h) (R : KR G' h h) (l : h.2.2.2.1 101 0 = 1) (x0 x1 : Int32) : Go sc true false (d + 21) 5 30 mLw_known 0 [vO 4 (0), vI x0, vI x1, vO 101 0, vU] [] h (PV (fun _ => LQ G G')) := by
  refine Go.aload_n dLw_known_0 rfl (Nat.ne_of_beq_eq_false rfl) ?_
  refine Go.iconst (v := nI 0) dLw_known_1 (by decide) ?_
  refine Go.aload_n dLw_known_2 rfl (Nat.ne_of_beq_eq_false rfl) ?_
  refine Go.iload_n dLw_known_3 rfl ?_
  refine Go.iload_n dLw_known_4 rfl ?_
  refine Go.callV (bc := 0) (bs := 0) (bc2 := 5) (bs2 := 30) (rd2 := false) false mBk_known [vI x0, vI x1] dLw_known_5 vwLw_64 (Nat.le_of_ble_eq_true rfl) rfl rfl (Nat.le_of_ble_eq_true rfl) (ma_nls rfl) (Nat.le_of_ble_eq_true rfl) (fun hc => nomatch hc) (w_Bk_known (d := d) K x0 x1) (fun h1 hq => ?_) (fun v h1 hq => ?_) (fun k h1 hq => ?_)
  · obtain ⟨_, e, _⟩ | ⟨_, _, e, _⟩ := hq <;> cases e
  · obtain ⟨v1, e, q⟩ | ⟨_, _, e, _⟩ := hq
    · cases e
      have qp := q.lp R l
      have l1 : h1.2.2.2.1 101 0 = 1 := qp.elim (fun _ z => z.2.2.1)
      refine Go.i2l dLw_known_8 ?_
      refine Go.last (jn := 0) dLw_known_9 rfl (by rw [l1]; decide) (by decide) ?_
      refine Go.goto (tgt := 21) dLw_known_10 (by decide) ?_
      refine Go.iconst (v := nI 0) dLw_known_21 (by decide) ?_
      refine Go.iret dLw_known_22 rfl rfl (by decide) ?_
      exact ⟨_, rfl, qp.long⟩
    · cases e
  · obtain ⟨_, e, _⟩ | ⟨k1, hk, e, rfl⟩ := hq
    · cases e
    · cases e
      have qp := (KB.wb K).lp R l
      simp only [List.mem_cons, List.not_mem_nil, or_false] at hk
      rcases hk with rfl | rfl
      · refine Or.inr ⟨13, hf_known_3, ?_⟩
        refine Go.astore dLw_known_13 (by decide) rfl ?_
        refine Go.iconst (v := nI 1) dLw_known_15 (by decide) ?_
        refine Go.iret dLw_known_16 rfl rfl (by decide) ?_
        exact ⟨_, rfl, qp⟩
      · refine Or.inr ⟨17, hf_known_1, ?_⟩
        refine Go.astore dLw_known_17 (by decide) rfl ?_
        refine Go.iconst (v := nI 2) dLw_known_19 (by decide) ?_
        refine Go.iret dLw_known_20 rfl rfl (by decide) ?_
        exact ⟨_, rfl, qp⟩
