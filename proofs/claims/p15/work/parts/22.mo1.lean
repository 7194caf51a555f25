/-! THE REFERENCE, 1: what it reads -/
set_option maxHeartbeats 1000000 in
theorem g_Mo_not {sc : Nat × (Nat → Int32)} {d bc bs : Nat} {h : AH} (x lo hi : Int32) : Go sc true false d bc bs mMo_not 0 [vI x, vI lo, vI hi] [] h (rP (fun v => (v = 0 ∧ (lo ≤ x ∧ x ≤ hi)) ∨ (v = 1 ∧ ¬ (lo ≤ x ∧ x ≤ hi))) h) := by
  refine Go.iload_n dMo_not_0 rfl ?_
  refine Go.iload_n dMo_not_1 rfl ?_
  refine Go.icmp_lt (tgt := 10) dMo_not_2 (by decide) (fun q1 => ?_) (fun q1 => ?_)
  · refine Go.iconst (v := nI 1) dMo_not_10 (by decide) ?_
    refine Go.goto (tgt := 15) dMo_not_11 (by decide) ?_
    refine Go.iret dMo_not_15 rfl rfl (by decide) ?_
    first
      | exact ⟨_, rfl, Or.inl ⟨rfl, by first | (constructor <;> first | assumption | (apply Int32.not_lt.mp; assumption))⟩, rfl⟩
      | exact ⟨_, rfl, Or.inr ⟨rfl, by rintro ⟨z1, z2⟩; first | contradiction | (exact absurd z1 (Int32.not_le.mpr (by assumption)))⟩, rfl⟩
  · refine Go.iload_n dMo_not_5 rfl ?_
    refine Go.iload_n dMo_not_6 rfl ?_
    refine Go.icmp_le (tgt := 14) dMo_not_7 (by decide) (fun q2 => ?_) (fun q2 => ?_)
    · refine Go.iconst (v := nI 0) dMo_not_14 (by decide) ?_
      refine Go.iret dMo_not_15 rfl rfl (by decide) ?_
      first
        | exact ⟨_, rfl, Or.inl ⟨rfl, by first | (constructor <;> first | assumption | (apply Int32.not_lt.mp; assumption))⟩, rfl⟩
        | exact ⟨_, rfl, Or.inr ⟨rfl, by rintro ⟨z1, z2⟩; first | contradiction | (exact absurd z1 (Int32.not_le.mpr (by assumption)))⟩, rfl⟩
    · refine Go.iconst (v := nI 1) dMo_not_10 (by decide) ?_
      refine Go.goto (tgt := 15) dMo_not_11 (by decide) ?_
      refine Go.iret dMo_not_15 rfl rfl (by decide) ?_
      first
        | exact ⟨_, rfl, Or.inl ⟨rfl, by first | (constructor <;> first | assumption | (apply Int32.not_lt.mp; assumption))⟩, rfl⟩
        | exact ⟨_, rfl, Or.inr ⟨rfl, by rintro ⟨z1, z2⟩; first | contradiction | (exact absurd z1 (Int32.not_le.mpr (by assumption)))⟩, rfl⟩
set_option maxHeartbeats 2000000 in
theorem g_Mo_noTruck {sc : Nat × (Nat → Int32)} {d bc bs : Nat} {md mt wn : Nat} {nw : Int32} {stf wtf : Nat → Int32} {h0 : AH} {h : AH} (K : KR ((md, mt, wn), nw, stf, wtf) h0 h) (x : Int32) : Go sc true false (d + 0) bc bs mMo_noTruck 0 [vO 5 (0), vI x] [] h (rP (fun v => (v = 0 ∧ ∃ j : Nat, j < mt ∧ x = nI j) ∨ (v = 1 ∧ (x < 0 ∨ nI mt ≤ x))) h) := by
  have b_md : md ≤ 4 := K.doors_le
  have b_mt : mt ≤ 12 := K.trucks_le
  have b_wn : wn ≤ 12 := K.waits_le
  refine Go.iload_n dMo_noTruck_0 rfl ?_
  refine Go.if_lt (tgt := 12) dMo_noTruck_1 (by decide) (fun q3 => ?_) (fun q3 => ?_)
  · refine Go.iconst (v := nI 1) dMo_noTruck_12 (by decide) ?_
    refine Go.goto (tgt := 17) dMo_noTruck_13 (by decide) ?_
    refine Go.iret dMo_noTruck_17 rfl rfl (by decide) ?_
    first
      | exact ⟨_, rfl, Or.inr ⟨rfl, Or.inl (by assumption)⟩, rfl⟩
      | exact ⟨_, rfl, Or.inr ⟨rfl, Or.inr (Int32.not_lt.mp (by assumption))⟩, rfl⟩
      | (refine ⟨_, rfl, Or.inl ⟨rfl, ?_⟩, rfl⟩
         rcases pk_ix x (n := mt) (by omega) with z | z | z
         · contradiction
         · exact absurd z (Int32.not_le.mpr (by assumption))
         · exact z)
  · refine Go.iload_n dMo_noTruck_4 rfl ?_
    refine Go.aload_n dMo_noTruck_5 rfl (Nat.ne_of_beq_eq_false rfl) ?_
    refine Go.getIv (v := nI (mt)) dMo_noTruck_6 flMo_36 (Nat.le_of_ble_eq_true rfl) rfl K.trucks ?_
    refine Go.icmp_lt (tgt := 16) dMo_noTruck_9 (by decide) (fun q4 => ?_) (fun q4 => ?_)
    · refine Go.iconst (v := nI 0) dMo_noTruck_16 (by decide) ?_
      refine Go.iret dMo_noTruck_17 rfl rfl (by decide) ?_
      first
        | exact ⟨_, rfl, Or.inr ⟨rfl, Or.inl (by assumption)⟩, rfl⟩
        | exact ⟨_, rfl, Or.inr ⟨rfl, Or.inr (Int32.not_lt.mp (by assumption))⟩, rfl⟩
        | (refine ⟨_, rfl, Or.inl ⟨rfl, ?_⟩, rfl⟩
           rcases pk_ix x (n := mt) (by omega) with z | z | z
           · contradiction
           · exact absurd z (Int32.not_le.mpr (by assumption))
           · exact z)
    · refine Go.iconst (v := nI 1) dMo_noTruck_12 (by decide) ?_
      refine Go.goto (tgt := 17) dMo_noTruck_13 (by decide) ?_
      refine Go.iret dMo_noTruck_17 rfl rfl (by decide) ?_
      first
        | exact ⟨_, rfl, Or.inr ⟨rfl, Or.inl (by assumption)⟩, rfl⟩
        | exact ⟨_, rfl, Or.inr ⟨rfl, Or.inr (Int32.not_lt.mp (by assumption))⟩, rfl⟩
        | (refine ⟨_, rfl, Or.inl ⟨rfl, ?_⟩, rfl⟩
           rcases pk_ix x (n := mt) (by omega) with z | z | z
           · contradiction
           · exact absurd z (Int32.not_le.mpr (by assumption))
           · exact z)
set_option maxHeartbeats 2000000 in
theorem g_Mo_noDoor {sc : Nat × (Nat → Int32)} {d bc bs : Nat} {md mt wn : Nat} {nw : Int32} {stf wtf : Nat → Int32} {h0 : AH} {h : AH} (K : KR ((md, mt, wn), nw, stf, wtf) h0 h) (x : Int32) : Go sc true false (d + 0) bc bs mMo_noDoor 0 [vO 5 (0), vI x] [] h (rP (fun v => (v = 0 ∧ ∃ j : Nat, j < md ∧ x = nI j) ∨ (v = 1 ∧ (x < 0 ∨ nI md ≤ x))) h) := by
  have b_md : md ≤ 4 := K.doors_le
  have b_mt : mt ≤ 12 := K.trucks_le
  have b_wn : wn ≤ 12 := K.waits_le
  refine Go.iload_n dMo_noDoor_0 rfl ?_
  refine Go.if_lt (tgt := 12) dMo_noDoor_1 (by decide) (fun q5 => ?_) (fun q5 => ?_)
  · refine Go.iconst (v := nI 1) dMo_noDoor_12 (by decide) ?_
    refine Go.goto (tgt := 17) dMo_noDoor_13 (by decide) ?_
    refine Go.iret dMo_noDoor_17 rfl rfl (by decide) ?_
    first
      | exact ⟨_, rfl, Or.inr ⟨rfl, Or.inl (by assumption)⟩, rfl⟩
      | exact ⟨_, rfl, Or.inr ⟨rfl, Or.inr (Int32.not_lt.mp (by assumption))⟩, rfl⟩
      | (refine ⟨_, rfl, Or.inl ⟨rfl, ?_⟩, rfl⟩
         rcases pk_ix x (n := md) (by omega) with z | z | z
         · contradiction
         · exact absurd z (Int32.not_le.mpr (by assumption))
         · exact z)
  · refine Go.iload_n dMo_noDoor_4 rfl ?_
    refine Go.aload_n dMo_noDoor_5 rfl (Nat.ne_of_beq_eq_false rfl) ?_
    refine Go.getIv (v := nI (md)) dMo_noDoor_6 flMo_16 (Nat.le_of_ble_eq_true rfl) rfl K.doors ?_
    refine Go.icmp_lt (tgt := 16) dMo_noDoor_9 (by decide) (fun q6 => ?_) (fun q6 => ?_)
    · refine Go.iconst (v := nI 0) dMo_noDoor_16 (by decide) ?_
      refine Go.iret dMo_noDoor_17 rfl rfl (by decide) ?_
      first
        | exact ⟨_, rfl, Or.inr ⟨rfl, Or.inl (by assumption)⟩, rfl⟩
        | exact ⟨_, rfl, Or.inr ⟨rfl, Or.inr (Int32.not_lt.mp (by assumption))⟩, rfl⟩
        | (refine ⟨_, rfl, Or.inl ⟨rfl, ?_⟩, rfl⟩
           rcases pk_ix x (n := md) (by omega) with z | z | z
           · contradiction
           · exact absurd z (Int32.not_le.mpr (by assumption))
           · exact z)
    · refine Go.iconst (v := nI 1) dMo_noDoor_12 (by decide) ?_
      refine Go.goto (tgt := 17) dMo_noDoor_13 (by decide) ?_
      refine Go.iret dMo_noDoor_17 rfl rfl (by decide) ?_
      first
        | exact ⟨_, rfl, Or.inr ⟨rfl, Or.inl (by assumption)⟩, rfl⟩
        | exact ⟨_, rfl, Or.inr ⟨rfl, Or.inr (Int32.not_lt.mp (by assumption))⟩, rfl⟩
        | (refine ⟨_, rfl, Or.inl ⟨rfl, ?_⟩, rfl⟩
           rcases pk_ix x (n := md) (by omega) with z | z | z
           · contradiction
           · exact absurd z (Int32.not_le.mpr (by assumption))
           · exact z)
set_option maxHeartbeats 2000000 in
theorem lp_Mo_at_2 {sc : Nat × (Nat → Int32)} {d bc bs : Nat} {md mt wn : Nat} {nw : Int32} {stf wtf : Nat → Int32} {h0 : AH} {h : AH} {Q : GO → AH → Prop} (x : Int32) (hQ1 : ∀ j : Nat, j < mt → Q (.inl (some (vI (nI j)))) h) (hQ2 : Q (.inl (some (vI (-1)))) h) (K : KR ((md, mt, wn), nw, stf, wtf) h0 h)  : ∀ (k0 : Nat) (t : Nat), (t ≤ mt) → mt - t ≤ k0 → Go sc false false (d + 0) bc bs mMo_at 2 [vO 5 (0), vI x, vI (nI (t))] [] h Q := by
  intro k0
  induction k0 using Nat.strongRecOn with
  | _ k0 ih =>
    intro t ht hk0
    have b_md : md ≤ 4 := K.doors_le
    have b_mt : mt ≤ 12 := K.trucks_le
    have b_wn : wn ≤ 12 := K.waits_le
    refine Go.iload_n dMo_at_2 rfl ?_
    refine Go.aload_n dMo_at_3 rfl (Nat.ne_of_beq_eq_false rfl) ?_
    refine Go.getIv (v := nI (mt)) dMo_at_4 flMo_36 (Nat.le_of_ble_eq_true rfl) rfl K.trucks ?_
    refine Go.icmp_ge (tgt := 38) dMo_at_7 (by decide) (fun q7 => ?_) (fun q7 => ?_)
    · replace q7 := tle q7 (by omega) (by omega)
      refine Go.iconst (v := -1) dMo_at_38 (by decide) ?_
      refine Go.iret dMo_at_39 rfl rfl (by decide) ?_
      exact hQ2
    · replace q7 := tnle q7 (by omega) (by omega)
      refine Go.aload_n dMo_at_10 rfl (Nat.ne_of_beq_eq_false rfl) ?_
      refine Go.getR dMo_at_11 flMo_39 (Nat.le_of_ble_eq_true rfl) rfl K.r_state ?_
      refine Go.iload_n dMo_at_14 rfl ?_
      refine Go.ialdv (v := ((stf (t)))) (jn := t) dMo_at_15 rfl (Nat.lt_of_lt_of_eq (by omega) (K.l_state).symm) (by omega) (K.state (t)) ?_
      refine Go.iconst (v := nI 1) dMo_at_16 (by decide) ?_
      refine Go.icmp_ne (tgt := 32) dMo_at_17 (by decide) (fun q9 => ?_) (fun q9 => ?_)
      · refine Go.iinc (v := nI (t + 1)) dMo_at_32 (by decide) rfl (nI_inc _) rfl ?_
        refine Go.goto (tgt := 2) dMo_at_35 (by decide) ?_
        exact Go.weak (ih (mt - ((t + 1))) (by omega) ((t + 1))  (by omega) (Nat.le_refl _))
      · refine Go.aload_n dMo_at_20 rfl (Nat.ne_of_beq_eq_false rfl) ?_
        refine Go.getR dMo_at_21 flMo_54 (Nat.le_of_ble_eq_true rfl) rfl K.r_doorOf ?_
        refine Go.iload_n dMo_at_24 rfl ?_
        refine Go.iald (jn := t) dMo_at_25 rfl (Nat.lt_of_lt_of_eq (by omega) (K.l_doorOf).symm) (by omega) ?_
        refine Go.iload_n dMo_at_26 rfl ?_
        refine Go.icmp_ne (tgt := 32) dMo_at_27 (by decide) (fun q10 => ?_) (fun q10 => ?_)
        · refine Go.iinc (v := nI (t + 1)) dMo_at_32 (by decide) rfl (nI_inc _) rfl ?_
          refine Go.goto (tgt := 2) dMo_at_35 (by decide) ?_
          exact Go.weak (ih (mt - ((t + 1))) (by omega) ((t + 1))  (by omega) (Nat.le_refl _))
        · refine Go.iload_n dMo_at_30 rfl ?_
          refine Go.iret dMo_at_31 rfl rfl (by decide) ?_
          exact hQ1 _ (by omega)
set_option maxHeartbeats 2000000 in
theorem g_Mo_at {sc : Nat × (Nat → Int32)} {d bc bs : Nat} {md mt wn : Nat} {nw : Int32} {stf wtf : Nat → Int32} {h0 : AH} {h : AH} (K : KR ((md, mt, wn), nw, stf, wtf) h0 h) (x : Int32) : Go sc true false (d + 0) bc bs mMo_at 0 [vO 5 (0), vI x, vU] [] h (rP (fun v => v = -1 ∨ ∃ j : Nat, j < mt ∧ v = nI j) h) := by
  have b_md : md ≤ 4 := K.doors_le
  have b_mt : mt ≤ 12 := K.trucks_le
  have b_wn : wn ≤ 12 := K.waits_le
  refine Go.iconst (v := nI 0) dMo_at_0 (by decide) ?_
  refine Go.istore_n dMo_at_1 (by decide) rfl ?_
  exact Go.weak (lp_Mo_at_2 x (fun j hj => ⟨_, rfl, Or.inr ⟨j, hj, rfl⟩, rfl⟩) ⟨_, rfl, Or.inl rfl, rfl⟩ K _ 0 (by omega) (Nat.le_refl _))
set_option maxHeartbeats 2000000 in
theorem g_Mo_freeFrom {sc : Nat × (Nat → Int32)} {d bc bs : Nat} {md mt wn : Nat} {nw : Int32} {stf wtf : Nat → Int32} {h0 : AH} {h : AH} (K : KR ((md, mt, wn), nw, stf, wtf) h0 h) (x : Int32) : Go sc true false (d + 1) bc bs mMo_freeFrom 0 [vO 5 (0), vI x, vU, vU] [] h (rP (fun _ => True) h) := by
  have b_md : md ≤ 4 := K.doors_le
  have b_mt : mt ≤ 12 := K.trucks_le
  have b_wn : wn ≤ 12 := K.waits_le
  refine Go.aload_n dMo_freeFrom_0 rfl (Nat.ne_of_beq_eq_false rfl) ?_
  refine Go.iload_n dMo_freeFrom_1 rfl ?_
  refine Go.cVr mMo_at [vI x] dMo_freeFrom_2 vwMo_103 (Nat.le_of_ble_eq_true rfl) rfl rfl (Nat.le_of_ble_eq_true rfl) rfl (Nat.le_of_ble_eq_true rfl) (g_Mo_at K _  ) ?_
  rintro v11 (rfl | ⟨t11, ht11, rfl⟩)
  · refine Go.istore_n dMo_freeFrom_5 (by decide) rfl ?_
    refine Go.iload_n dMo_freeFrom_6 rfl ?_
    refine Go.if_ge (tgt := 14) dMo_freeFrom_7 (by decide) (fun q12 => ?_) (fun q12 => ?_)
    · exact absurd q12 (by decide)
    · refine Go.iconst (v := nI 0) dMo_freeFrom_10 (by decide) ?_
      refine Go.goto (tgt := 27) dMo_freeFrom_11 (by decide) ?_
      refine Go.istore_n dMo_freeFrom_27 (by decide) rfl ?_
      refine Go.iload_n dMo_freeFrom_28 rfl ?_
      refine Go.aload_n dMo_freeFrom_29 rfl (Nat.ne_of_beq_eq_false rfl) ?_
      refine Go.getIv (v := (nw)) dMo_freeFrom_30 flMo_13 (Nat.le_of_ble_eq_true rfl) rfl K.now ?_
      refine Go.icmp_le (tgt := 40) dMo_freeFrom_33 (by decide) (fun q13 => ?_) (fun q13 => ?_)
      · refine Go.aload_n dMo_freeFrom_40 rfl (Nat.ne_of_beq_eq_false rfl) ?_
        refine Go.getIv (v := (nw)) dMo_freeFrom_41 flMo_13 (Nat.le_of_ble_eq_true rfl) rfl K.now ?_
        refine Go.iret dMo_freeFrom_44 rfl rfl (by decide) ?_
        exact ⟨_, rfl, trivial, rfl⟩
      · refine Go.iload_n dMo_freeFrom_36 rfl ?_
        refine Go.goto (tgt := 44) dMo_freeFrom_37 (by decide) ?_
        refine Go.iret dMo_freeFrom_44 rfl rfl (by decide) ?_
        exact ⟨_, rfl, trivial, rfl⟩
  · refine Go.istore_n dMo_freeFrom_5 (by decide) rfl ?_
    refine Go.iload_n dMo_freeFrom_6 rfl ?_
    refine Go.if_ge (tgt := 14) dMo_freeFrom_7 (by decide) (fun q14 => ?_) (fun q14 => ?_)
    · refine Go.aload_n dMo_freeFrom_14 rfl (Nat.ne_of_beq_eq_false rfl) ?_
      refine Go.getR dMo_freeFrom_15 flMo_57 (Nat.le_of_ble_eq_true rfl) rfl K.r_start ?_
      refine Go.iload_n dMo_freeFrom_18 rfl ?_
      refine Go.iald (jn := t11) dMo_freeFrom_19 rfl (Nat.lt_of_lt_of_eq (by omega) (K.l_start).symm) (by omega) ?_
      refine Go.aload_n dMo_freeFrom_20 rfl (Nat.ne_of_beq_eq_false rfl) ?_
      refine Go.getR dMo_freeFrom_21 flMo_48 (Nat.le_of_ble_eq_true rfl) rfl K.r_need ?_
      refine Go.iload_n dMo_freeFrom_24 rfl ?_
      refine Go.iald (jn := t11) dMo_freeFrom_25 rfl (Nat.lt_of_lt_of_eq (by omega) (K.l_need).symm) (by omega) ?_
      refine Go.iadd dMo_freeFrom_26 ?_
      refine Go.istore_n dMo_freeFrom_27 (by decide) rfl ?_
      refine Go.iload_n dMo_freeFrom_28 rfl ?_
      refine Go.aload_n dMo_freeFrom_29 rfl (Nat.ne_of_beq_eq_false rfl) ?_
      refine Go.getIv (v := (nw)) dMo_freeFrom_30 flMo_13 (Nat.le_of_ble_eq_true rfl) rfl K.now ?_
      refine Go.icmp_le (tgt := 40) dMo_freeFrom_33 (by decide) (fun q15 => ?_) (fun q15 => ?_)
      · refine Go.aload_n dMo_freeFrom_40 rfl (Nat.ne_of_beq_eq_false rfl) ?_
        refine Go.getIv (v := (nw)) dMo_freeFrom_41 flMo_13 (Nat.le_of_ble_eq_true rfl) rfl K.now ?_
        refine Go.iret dMo_freeFrom_44 rfl rfl (by decide) ?_
        exact ⟨_, rfl, trivial, rfl⟩
      · refine Go.iload_n dMo_freeFrom_36 rfl ?_
        refine Go.goto (tgt := 44) dMo_freeFrom_37 (by decide) ?_
        refine Go.iret dMo_freeFrom_44 rfl rfl (by decide) ?_
        exact ⟨_, rfl, trivial, rfl⟩
    · exact absurd (nI_pos' (by omega)) q14
set_option maxHeartbeats 2000000 in
theorem g_Mo_startAt {sc : Nat × (Nat → Int32)} {d bc bs : Nat} {md mt wn : Nat} {nw : Int32} {stf wtf : Nat → Int32} {h0 : AH} {h : AH} (K : KR ((md, mt, wn), nw, stf, wtf) h0 h) (t q : Nat) (x : Int32) (ht : t < 12) (hq : q < 4) : Go sc true false (d + 0) bc bs mMo_startAt 0 [vO 5 (0), vI (nI (t)), vI (nI (q)), vI x, vU] [] h (rP (fun _ => True) h) := by
  have b_md : md ≤ 4 := K.doors_le
  have b_mt : mt ≤ 12 := K.trucks_le
  have b_wn : wn ≤ 12 := K.waits_le
  refine Go.aload_n dMo_startAt_0 rfl (Nat.ne_of_beq_eq_false rfl) ?_
  refine Go.getR dMo_startAt_1 flMo_29 (Nat.le_of_ble_eq_true rfl) rfl K.r_isOut ?_
  refine Go.iload_n dMo_startAt_4 rfl ?_
  refine Go.zald (jn := q) dMo_startAt_5 rfl (Nat.lt_of_lt_of_eq (by omega) (K.l_isOut).symm) (by omega) ?_
  refine Go.if_ne (tgt := 27) dMo_startAt_6 (by decide) (fun q16 => ?_) (fun q16 => ?_)
  · refine Go.iconst (v := -1) dMo_startAt_27 (by decide) ?_
    refine Go.iret dMo_startAt_28 rfl rfl (by decide) ?_
    exact ⟨_, rfl, trivial, rfl⟩
  · refine Go.aload_n dMo_startAt_9 rfl (Nat.ne_of_beq_eq_false rfl) ?_
    refine Go.getR dMo_startAt_10 flMo_19 (Nat.le_of_ble_eq_true rfl) rfl K.r_kinds ?_
    refine Go.iload_n dMo_startAt_13 rfl ?_
    refine Go.iald (jn := q) dMo_startAt_14 rfl (Nat.lt_of_lt_of_eq (by omega) (K.l_kinds).symm) (by omega) ?_
    refine Go.aload_n dMo_startAt_15 rfl (Nat.ne_of_beq_eq_false rfl) ?_
    refine Go.getR dMo_startAt_16 flMo_42 (Nat.le_of_ble_eq_true rfl) rfl K.r_kind ?_
    refine Go.iload_n dMo_startAt_19 rfl ?_
    refine Go.iald (jn := t) dMo_startAt_20 rfl (Nat.lt_of_lt_of_eq (by omega) (K.l_kind).symm) (by omega) ?_
    refine Go.ishr dMo_startAt_21 ?_
    refine Go.iconst (v := nI 1) dMo_startAt_22 (by decide) ?_
    refine Go.iand dMo_startAt_23 ?_
    refine Go.if_ne (tgt := 29) dMo_startAt_24 (by decide) (fun q17 => ?_) (fun q17 => ?_)
    · refine Go.iload_n dMo_startAt_29 rfl ?_
      refine Go.istore dMo_startAt_30 (by decide) rfl ?_
      refine Go.aload_n dMo_startAt_32 rfl (Nat.ne_of_beq_eq_false rfl) ?_
      refine Go.getR dMo_startAt_33 flMo_45 (Nat.le_of_ble_eq_true rfl) rfl K.r_arrival ?_
      refine Go.iload_n dMo_startAt_36 rfl ?_
      refine Go.iald (jn := t) dMo_startAt_37 rfl (Nat.lt_of_lt_of_eq (by omega) (K.l_arrival).symm) (by omega) ?_
      refine Go.iload dMo_startAt_38 rfl ?_
      refine Go.icmp_le (tgt := 51) dMo_startAt_40 (by decide) (fun q18 => ?_) (fun q18 => ?_)
      · refine Go.aload_n dMo_startAt_51 rfl (Nat.ne_of_beq_eq_false rfl) ?_
        refine Go.getR dMo_startAt_52 flMo_23 (Nat.le_of_ble_eq_true rfl) rfl K.r_opens ?_
        refine Go.iload_n dMo_startAt_55 rfl ?_
        refine Go.iald (jn := q) dMo_startAt_56 rfl (Nat.lt_of_lt_of_eq (by omega) (K.l_opens).symm) (by omega) ?_
        refine Go.iload dMo_startAt_57 rfl ?_
        refine Go.icmp_le (tgt := 70) dMo_startAt_59 (by decide) (fun q19 => ?_) (fun q19 => ?_)
        · refine Go.aload_n dMo_startAt_70 rfl (Nat.ne_of_beq_eq_false rfl) ?_
          refine Go.getIv (v := (nw)) dMo_startAt_71 flMo_13 (Nat.le_of_ble_eq_true rfl) rfl K.now ?_
          refine Go.iload dMo_startAt_74 rfl ?_
          refine Go.icmp_le (tgt := 85) dMo_startAt_76 (by decide) (fun q20 => ?_) (fun q20 => ?_)
          · refine Go.iload dMo_startAt_85 rfl ?_
            refine Go.aload_n dMo_startAt_87 rfl (Nat.ne_of_beq_eq_false rfl) ?_
            refine Go.getR dMo_startAt_88 flMo_48 (Nat.le_of_ble_eq_true rfl) rfl K.r_need ?_
            refine Go.iload_n dMo_startAt_91 rfl ?_
            refine Go.iald (jn := t) dMo_startAt_92 rfl (Nat.lt_of_lt_of_eq (by omega) (K.l_need).symm) (by omega) ?_
            refine Go.iadd dMo_startAt_93 ?_
            refine Go.aload_n dMo_startAt_94 rfl (Nat.ne_of_beq_eq_false rfl) ?_
            refine Go.getR dMo_startAt_95 flMo_26 (Nat.le_of_ble_eq_true rfl) rfl K.r_closes ?_
            refine Go.iload_n dMo_startAt_98 rfl ?_
            refine Go.iald (jn := q) dMo_startAt_99 rfl (Nat.lt_of_lt_of_eq (by omega) (K.l_closes).symm) (by omega) ?_
            refine Go.icmp_le (tgt := 107) dMo_startAt_100 (by decide) (fun q21 => ?_) (fun q21 => ?_)
            · refine Go.iload dMo_startAt_107 rfl ?_
              refine Go.iret dMo_startAt_109 rfl rfl (by decide) ?_
              exact ⟨_, rfl, trivial, rfl⟩
            · refine Go.iconst (v := -1) dMo_startAt_103 (by decide) ?_
              refine Go.goto (tgt := 109) dMo_startAt_104 (by decide) ?_
              refine Go.iret dMo_startAt_109 rfl rfl (by decide) ?_
              exact ⟨_, rfl, trivial, rfl⟩
          · refine Go.aload_n dMo_startAt_79 rfl (Nat.ne_of_beq_eq_false rfl) ?_
            refine Go.getIv (v := (nw)) dMo_startAt_80 flMo_13 (Nat.le_of_ble_eq_true rfl) rfl K.now ?_
            refine Go.istore dMo_startAt_83 (by decide) rfl ?_
            refine Go.iload dMo_startAt_85 rfl ?_
            refine Go.aload_n dMo_startAt_87 rfl (Nat.ne_of_beq_eq_false rfl) ?_
            refine Go.getR dMo_startAt_88 flMo_48 (Nat.le_of_ble_eq_true rfl) rfl K.r_need ?_
            refine Go.iload_n dMo_startAt_91 rfl ?_
            refine Go.iald (jn := t) dMo_startAt_92 rfl (Nat.lt_of_lt_of_eq (by omega) (K.l_need).symm) (by omega) ?_
            refine Go.iadd dMo_startAt_93 ?_
            refine Go.aload_n dMo_startAt_94 rfl (Nat.ne_of_beq_eq_false rfl) ?_
            refine Go.getR dMo_startAt_95 flMo_26 (Nat.le_of_ble_eq_true rfl) rfl K.r_closes ?_
            refine Go.iload_n dMo_startAt_98 rfl ?_
            refine Go.iald (jn := q) dMo_startAt_99 rfl (Nat.lt_of_lt_of_eq (by omega) (K.l_closes).symm) (by omega) ?_
            refine Go.icmp_le (tgt := 107) dMo_startAt_100 (by decide) (fun q22 => ?_) (fun q22 => ?_)
            · refine Go.iload dMo_startAt_107 rfl ?_
              refine Go.iret dMo_startAt_109 rfl rfl (by decide) ?_
              exact ⟨_, rfl, trivial, rfl⟩
            · refine Go.iconst (v := -1) dMo_startAt_103 (by decide) ?_
              refine Go.goto (tgt := 109) dMo_startAt_104 (by decide) ?_
              refine Go.iret dMo_startAt_109 rfl rfl (by decide) ?_
              exact ⟨_, rfl, trivial, rfl⟩
        · refine Go.aload_n dMo_startAt_62 rfl (Nat.ne_of_beq_eq_false rfl) ?_
          refine Go.getR dMo_startAt_63 flMo_23 (Nat.le_of_ble_eq_true rfl) rfl K.r_opens ?_
          refine Go.iload_n dMo_startAt_66 rfl ?_
          refine Go.iald (jn := q) dMo_startAt_67 rfl (Nat.lt_of_lt_of_eq (by omega) (K.l_opens).symm) (by omega) ?_
          refine Go.istore dMo_startAt_68 (by decide) rfl ?_
          refine Go.aload_n dMo_startAt_70 rfl (Nat.ne_of_beq_eq_false rfl) ?_
          refine Go.getIv (v := (nw)) dMo_startAt_71 flMo_13 (Nat.le_of_ble_eq_true rfl) rfl K.now ?_
          refine Go.iload dMo_startAt_74 rfl ?_
          refine Go.icmp_le (tgt := 85) dMo_startAt_76 (by decide) (fun q23 => ?_) (fun q23 => ?_)
          · refine Go.iload dMo_startAt_85 rfl ?_
            refine Go.aload_n dMo_startAt_87 rfl (Nat.ne_of_beq_eq_false rfl) ?_
            refine Go.getR dMo_startAt_88 flMo_48 (Nat.le_of_ble_eq_true rfl) rfl K.r_need ?_
            refine Go.iload_n dMo_startAt_91 rfl ?_
            refine Go.iald (jn := t) dMo_startAt_92 rfl (Nat.lt_of_lt_of_eq (by omega) (K.l_need).symm) (by omega) ?_
            refine Go.iadd dMo_startAt_93 ?_
            refine Go.aload_n dMo_startAt_94 rfl (Nat.ne_of_beq_eq_false rfl) ?_
            refine Go.getR dMo_startAt_95 flMo_26 (Nat.le_of_ble_eq_true rfl) rfl K.r_closes ?_
            refine Go.iload_n dMo_startAt_98 rfl ?_
            refine Go.iald (jn := q) dMo_startAt_99 rfl (Nat.lt_of_lt_of_eq (by omega) (K.l_closes).symm) (by omega) ?_
            refine Go.icmp_le (tgt := 107) dMo_startAt_100 (by decide) (fun q24 => ?_) (fun q24 => ?_)
            · refine Go.iload dMo_startAt_107 rfl ?_
              refine Go.iret dMo_startAt_109 rfl rfl (by decide) ?_
              exact ⟨_, rfl, trivial, rfl⟩
            · refine Go.iconst (v := -1) dMo_startAt_103 (by decide) ?_
              refine Go.goto (tgt := 109) dMo_startAt_104 (by decide) ?_
              refine Go.iret dMo_startAt_109 rfl rfl (by decide) ?_
              exact ⟨_, rfl, trivial, rfl⟩
          · refine Go.aload_n dMo_startAt_79 rfl (Nat.ne_of_beq_eq_false rfl) ?_
            refine Go.getIv (v := (nw)) dMo_startAt_80 flMo_13 (Nat.le_of_ble_eq_true rfl) rfl K.now ?_
            refine Go.istore dMo_startAt_83 (by decide) rfl ?_
            refine Go.iload dMo_startAt_85 rfl ?_
            refine Go.aload_n dMo_startAt_87 rfl (Nat.ne_of_beq_eq_false rfl) ?_
            refine Go.getR dMo_startAt_88 flMo_48 (Nat.le_of_ble_eq_true rfl) rfl K.r_need ?_
            refine Go.iload_n dMo_startAt_91 rfl ?_
            refine Go.iald (jn := t) dMo_startAt_92 rfl (Nat.lt_of_lt_of_eq (by omega) (K.l_need).symm) (by omega) ?_
            refine Go.iadd dMo_startAt_93 ?_
            refine Go.aload_n dMo_startAt_94 rfl (Nat.ne_of_beq_eq_false rfl) ?_
            refine Go.getR dMo_startAt_95 flMo_26 (Nat.le_of_ble_eq_true rfl) rfl K.r_closes ?_
            refine Go.iload_n dMo_startAt_98 rfl ?_
            refine Go.iald (jn := q) dMo_startAt_99 rfl (Nat.lt_of_lt_of_eq (by omega) (K.l_closes).symm) (by omega) ?_
            refine Go.icmp_le (tgt := 107) dMo_startAt_100 (by decide) (fun q25 => ?_) (fun q25 => ?_)
            · refine Go.iload dMo_startAt_107 rfl ?_
              refine Go.iret dMo_startAt_109 rfl rfl (by decide) ?_
              exact ⟨_, rfl, trivial, rfl⟩
            · refine Go.iconst (v := -1) dMo_startAt_103 (by decide) ?_
              refine Go.goto (tgt := 109) dMo_startAt_104 (by decide) ?_
              refine Go.iret dMo_startAt_109 rfl rfl (by decide) ?_
              exact ⟨_, rfl, trivial, rfl⟩
      · refine Go.aload_n dMo_startAt_43 rfl (Nat.ne_of_beq_eq_false rfl) ?_
        refine Go.getR dMo_startAt_44 flMo_45 (Nat.le_of_ble_eq_true rfl) rfl K.r_arrival ?_
        refine Go.iload_n dMo_startAt_47 rfl ?_
        refine Go.iald (jn := t) dMo_startAt_48 rfl (Nat.lt_of_lt_of_eq (by omega) (K.l_arrival).symm) (by omega) ?_
        refine Go.istore dMo_startAt_49 (by decide) rfl ?_
        refine Go.aload_n dMo_startAt_51 rfl (Nat.ne_of_beq_eq_false rfl) ?_
        refine Go.getR dMo_startAt_52 flMo_23 (Nat.le_of_ble_eq_true rfl) rfl K.r_opens ?_
        refine Go.iload_n dMo_startAt_55 rfl ?_
        refine Go.iald (jn := q) dMo_startAt_56 rfl (Nat.lt_of_lt_of_eq (by omega) (K.l_opens).symm) (by omega) ?_
        refine Go.iload dMo_startAt_57 rfl ?_
        refine Go.icmp_le (tgt := 70) dMo_startAt_59 (by decide) (fun q26 => ?_) (fun q26 => ?_)
        · refine Go.aload_n dMo_startAt_70 rfl (Nat.ne_of_beq_eq_false rfl) ?_
          refine Go.getIv (v := (nw)) dMo_startAt_71 flMo_13 (Nat.le_of_ble_eq_true rfl) rfl K.now ?_
          refine Go.iload dMo_startAt_74 rfl ?_
          refine Go.icmp_le (tgt := 85) dMo_startAt_76 (by decide) (fun q27 => ?_) (fun q27 => ?_)
          · refine Go.iload dMo_startAt_85 rfl ?_
            refine Go.aload_n dMo_startAt_87 rfl (Nat.ne_of_beq_eq_false rfl) ?_
            refine Go.getR dMo_startAt_88 flMo_48 (Nat.le_of_ble_eq_true rfl) rfl K.r_need ?_
            refine Go.iload_n dMo_startAt_91 rfl ?_
            refine Go.iald (jn := t) dMo_startAt_92 rfl (Nat.lt_of_lt_of_eq (by omega) (K.l_need).symm) (by omega) ?_
            refine Go.iadd dMo_startAt_93 ?_
            refine Go.aload_n dMo_startAt_94 rfl (Nat.ne_of_beq_eq_false rfl) ?_
            refine Go.getR dMo_startAt_95 flMo_26 (Nat.le_of_ble_eq_true rfl) rfl K.r_closes ?_
            refine Go.iload_n dMo_startAt_98 rfl ?_
            refine Go.iald (jn := q) dMo_startAt_99 rfl (Nat.lt_of_lt_of_eq (by omega) (K.l_closes).symm) (by omega) ?_
            refine Go.icmp_le (tgt := 107) dMo_startAt_100 (by decide) (fun q28 => ?_) (fun q28 => ?_)
            · refine Go.iload dMo_startAt_107 rfl ?_
              refine Go.iret dMo_startAt_109 rfl rfl (by decide) ?_
              exact ⟨_, rfl, trivial, rfl⟩
            · refine Go.iconst (v := -1) dMo_startAt_103 (by decide) ?_
              refine Go.goto (tgt := 109) dMo_startAt_104 (by decide) ?_
              refine Go.iret dMo_startAt_109 rfl rfl (by decide) ?_
              exact ⟨_, rfl, trivial, rfl⟩
          · refine Go.aload_n dMo_startAt_79 rfl (Nat.ne_of_beq_eq_false rfl) ?_
            refine Go.getIv (v := (nw)) dMo_startAt_80 flMo_13 (Nat.le_of_ble_eq_true rfl) rfl K.now ?_
            refine Go.istore dMo_startAt_83 (by decide) rfl ?_
            refine Go.iload dMo_startAt_85 rfl ?_
            refine Go.aload_n dMo_startAt_87 rfl (Nat.ne_of_beq_eq_false rfl) ?_
            refine Go.getR dMo_startAt_88 flMo_48 (Nat.le_of_ble_eq_true rfl) rfl K.r_need ?_
            refine Go.iload_n dMo_startAt_91 rfl ?_
            refine Go.iald (jn := t) dMo_startAt_92 rfl (Nat.lt_of_lt_of_eq (by omega) (K.l_need).symm) (by omega) ?_
            refine Go.iadd dMo_startAt_93 ?_
            refine Go.aload_n dMo_startAt_94 rfl (Nat.ne_of_beq_eq_false rfl) ?_
            refine Go.getR dMo_startAt_95 flMo_26 (Nat.le_of_ble_eq_true rfl) rfl K.r_closes ?_
            refine Go.iload_n dMo_startAt_98 rfl ?_
            refine Go.iald (jn := q) dMo_startAt_99 rfl (Nat.lt_of_lt_of_eq (by omega) (K.l_closes).symm) (by omega) ?_
            refine Go.icmp_le (tgt := 107) dMo_startAt_100 (by decide) (fun q29 => ?_) (fun q29 => ?_)
            · refine Go.iload dMo_startAt_107 rfl ?_
              refine Go.iret dMo_startAt_109 rfl rfl (by decide) ?_
              exact ⟨_, rfl, trivial, rfl⟩
            · refine Go.iconst (v := -1) dMo_startAt_103 (by decide) ?_
              refine Go.goto (tgt := 109) dMo_startAt_104 (by decide) ?_
              refine Go.iret dMo_startAt_109 rfl rfl (by decide) ?_
              exact ⟨_, rfl, trivial, rfl⟩
        · refine Go.aload_n dMo_startAt_62 rfl (Nat.ne_of_beq_eq_false rfl) ?_
          refine Go.getR dMo_startAt_63 flMo_23 (Nat.le_of_ble_eq_true rfl) rfl K.r_opens ?_
          refine Go.iload_n dMo_startAt_66 rfl ?_
          refine Go.iald (jn := q) dMo_startAt_67 rfl (Nat.lt_of_lt_of_eq (by omega) (K.l_opens).symm) (by omega) ?_
          refine Go.istore dMo_startAt_68 (by decide) rfl ?_
          refine Go.aload_n dMo_startAt_70 rfl (Nat.ne_of_beq_eq_false rfl) ?_
          refine Go.getIv (v := (nw)) dMo_startAt_71 flMo_13 (Nat.le_of_ble_eq_true rfl) rfl K.now ?_
          refine Go.iload dMo_startAt_74 rfl ?_
          refine Go.icmp_le (tgt := 85) dMo_startAt_76 (by decide) (fun q30 => ?_) (fun q30 => ?_)
          · refine Go.iload dMo_startAt_85 rfl ?_
            refine Go.aload_n dMo_startAt_87 rfl (Nat.ne_of_beq_eq_false rfl) ?_
            refine Go.getR dMo_startAt_88 flMo_48 (Nat.le_of_ble_eq_true rfl) rfl K.r_need ?_
            refine Go.iload_n dMo_startAt_91 rfl ?_
            refine Go.iald (jn := t) dMo_startAt_92 rfl (Nat.lt_of_lt_of_eq (by omega) (K.l_need).symm) (by omega) ?_
            refine Go.iadd dMo_startAt_93 ?_
            refine Go.aload_n dMo_startAt_94 rfl (Nat.ne_of_beq_eq_false rfl) ?_
            refine Go.getR dMo_startAt_95 flMo_26 (Nat.le_of_ble_eq_true rfl) rfl K.r_closes ?_
            refine Go.iload_n dMo_startAt_98 rfl ?_
            refine Go.iald (jn := q) dMo_startAt_99 rfl (Nat.lt_of_lt_of_eq (by omega) (K.l_closes).symm) (by omega) ?_
            refine Go.icmp_le (tgt := 107) dMo_startAt_100 (by decide) (fun q31 => ?_) (fun q31 => ?_)
            · refine Go.iload dMo_startAt_107 rfl ?_
              refine Go.iret dMo_startAt_109 rfl rfl (by decide) ?_
              exact ⟨_, rfl, trivial, rfl⟩
            · refine Go.iconst (v := -1) dMo_startAt_103 (by decide) ?_
              refine Go.goto (tgt := 109) dMo_startAt_104 (by decide) ?_
              refine Go.iret dMo_startAt_109 rfl rfl (by decide) ?_
              exact ⟨_, rfl, trivial, rfl⟩
          · refine Go.aload_n dMo_startAt_79 rfl (Nat.ne_of_beq_eq_false rfl) ?_
            refine Go.getIv (v := (nw)) dMo_startAt_80 flMo_13 (Nat.le_of_ble_eq_true rfl) rfl K.now ?_
            refine Go.istore dMo_startAt_83 (by decide) rfl ?_
            refine Go.iload dMo_startAt_85 rfl ?_
            refine Go.aload_n dMo_startAt_87 rfl (Nat.ne_of_beq_eq_false rfl) ?_
            refine Go.getR dMo_startAt_88 flMo_48 (Nat.le_of_ble_eq_true rfl) rfl K.r_need ?_
            refine Go.iload_n dMo_startAt_91 rfl ?_
            refine Go.iald (jn := t) dMo_startAt_92 rfl (Nat.lt_of_lt_of_eq (by omega) (K.l_need).symm) (by omega) ?_
            refine Go.iadd dMo_startAt_93 ?_
            refine Go.aload_n dMo_startAt_94 rfl (Nat.ne_of_beq_eq_false rfl) ?_
            refine Go.getR dMo_startAt_95 flMo_26 (Nat.le_of_ble_eq_true rfl) rfl K.r_closes ?_
            refine Go.iload_n dMo_startAt_98 rfl ?_
            refine Go.iald (jn := q) dMo_startAt_99 rfl (Nat.lt_of_lt_of_eq (by omega) (K.l_closes).symm) (by omega) ?_
            refine Go.icmp_le (tgt := 107) dMo_startAt_100 (by decide) (fun q32 => ?_) (fun q32 => ?_)
            · refine Go.iload dMo_startAt_107 rfl ?_
              refine Go.iret dMo_startAt_109 rfl rfl (by decide) ?_
              exact ⟨_, rfl, trivial, rfl⟩
            · refine Go.iconst (v := -1) dMo_startAt_103 (by decide) ?_
              refine Go.goto (tgt := 109) dMo_startAt_104 (by decide) ?_
              refine Go.iret dMo_startAt_109 rfl rfl (by decide) ?_
              exact ⟨_, rfl, trivial, rfl⟩
    · refine Go.iconst (v := -1) dMo_startAt_27 (by decide) ?_
      refine Go.iret dMo_startAt_28 rfl rfl (by decide) ?_
      exact ⟨_, rfl, trivial, rfl⟩
set_option maxHeartbeats 2000000 in
theorem g_Mo_ahead {sc : Nat × (Nat → Int32)} {d bc bs : Nat} {md mt wn : Nat} {nw : Int32} {stf wtf : Nat → Int32} {h0 : AH} {h : AH} (K : KR ((md, mt, wn), nw, stf, wtf) h0 h) (a b : Nat) (ha : a < 12) (hb : b < 12) : Go sc true false (d + 0) bc bs mMo_ahead 0 [vO 5 (0), vI (nI (a)), vI (nI (b))] [] h (rP (fun _ => True) h) := by
  have b_md : md ≤ 4 := K.doors_le
  have b_mt : mt ≤ 12 := K.trucks_le
  have b_wn : wn ≤ 12 := K.waits_le
  refine Go.aload_n dMo_ahead_0 rfl (Nat.ne_of_beq_eq_false rfl) ?_
  refine Go.getR dMo_ahead_1 flMo_51 (Nat.le_of_ble_eq_true rfl) rfl K.r_ranks ?_
  refine Go.iload_n dMo_ahead_4 rfl ?_
  refine Go.iald (jn := a) dMo_ahead_5 rfl (Nat.lt_of_lt_of_eq (by omega) (K.l_ranks).symm) (by omega) ?_
  refine Go.aload_n dMo_ahead_6 rfl (Nat.ne_of_beq_eq_false rfl) ?_
  refine Go.getR dMo_ahead_7 flMo_51 (Nat.le_of_ble_eq_true rfl) rfl K.r_ranks ?_
  refine Go.iload_n dMo_ahead_10 rfl ?_
  refine Go.iald (jn := b) dMo_ahead_11 rfl (Nat.lt_of_lt_of_eq (by omega) (K.l_ranks).symm) (by omega) ?_
  refine Go.icmp_eq (tgt := 36) dMo_ahead_12 (by decide) (fun q33 => ?_) (fun q33 => ?_)
  · refine Go.aload_n dMo_ahead_36 rfl (Nat.ne_of_beq_eq_false rfl) ?_
    refine Go.getR dMo_ahead_37 flMo_45 (Nat.le_of_ble_eq_true rfl) rfl K.r_arrival ?_
    refine Go.iload_n dMo_ahead_40 rfl ?_
    refine Go.iald (jn := a) dMo_ahead_41 rfl (Nat.lt_of_lt_of_eq (by omega) (K.l_arrival).symm) (by omega) ?_
    refine Go.aload_n dMo_ahead_42 rfl (Nat.ne_of_beq_eq_false rfl) ?_
    refine Go.getR dMo_ahead_43 flMo_45 (Nat.le_of_ble_eq_true rfl) rfl K.r_arrival ?_
    refine Go.iload_n dMo_ahead_46 rfl ?_
    refine Go.iald (jn := b) dMo_ahead_47 rfl (Nat.lt_of_lt_of_eq (by omega) (K.l_arrival).symm) (by omega) ?_
    refine Go.icmp_eq (tgt := 74) dMo_ahead_48 (by decide) (fun q34 => ?_) (fun q34 => ?_)
    · refine Go.iload_n dMo_ahead_74 rfl ?_
      refine Go.iload_n dMo_ahead_75 rfl ?_
      refine Go.icmp_ge (tgt := 83) dMo_ahead_76 (by decide) (fun q35 => ?_) (fun q35 => ?_)
      · replace q35 := tle q35 (by omega) (by omega)
        refine Go.iconst (v := nI 0) dMo_ahead_83 (by decide) ?_
        refine Go.iret dMo_ahead_84 rfl rfl (by decide) ?_
        exact ⟨_, rfl, trivial, rfl⟩
      · replace q35 := tnle q35 (by omega) (by omega)
        refine Go.iconst (v := nI 1) dMo_ahead_79 (by decide) ?_
        refine Go.goto (tgt := 84) dMo_ahead_80 (by decide) ?_
        refine Go.iret dMo_ahead_84 rfl rfl (by decide) ?_
        exact ⟨_, rfl, trivial, rfl⟩
    · refine Go.aload_n dMo_ahead_51 rfl (Nat.ne_of_beq_eq_false rfl) ?_
      refine Go.getR dMo_ahead_52 flMo_45 (Nat.le_of_ble_eq_true rfl) rfl K.r_arrival ?_
      refine Go.iload_n dMo_ahead_55 rfl ?_
      refine Go.iald (jn := a) dMo_ahead_56 rfl (Nat.lt_of_lt_of_eq (by omega) (K.l_arrival).symm) (by omega) ?_
      refine Go.aload_n dMo_ahead_57 rfl (Nat.ne_of_beq_eq_false rfl) ?_
      refine Go.getR dMo_ahead_58 flMo_45 (Nat.le_of_ble_eq_true rfl) rfl K.r_arrival ?_
      refine Go.iload_n dMo_ahead_61 rfl ?_
      refine Go.iald (jn := b) dMo_ahead_62 rfl (Nat.lt_of_lt_of_eq (by omega) (K.l_arrival).symm) (by omega) ?_
      refine Go.icmp_ge (tgt := 70) dMo_ahead_63 (by decide) (fun q36 => ?_) (fun q36 => ?_)
      · refine Go.iconst (v := nI 0) dMo_ahead_70 (by decide) ?_
        refine Go.goto (tgt := 84) dMo_ahead_71 (by decide) ?_
        refine Go.iret dMo_ahead_84 rfl rfl (by decide) ?_
        exact ⟨_, rfl, trivial, rfl⟩
      · refine Go.iconst (v := nI 1) dMo_ahead_66 (by decide) ?_
        refine Go.goto (tgt := 84) dMo_ahead_67 (by decide) ?_
        refine Go.iret dMo_ahead_84 rfl rfl (by decide) ?_
        exact ⟨_, rfl, trivial, rfl⟩
  · refine Go.aload_n dMo_ahead_15 rfl (Nat.ne_of_beq_eq_false rfl) ?_
    refine Go.getR dMo_ahead_16 flMo_51 (Nat.le_of_ble_eq_true rfl) rfl K.r_ranks ?_
    refine Go.iload_n dMo_ahead_19 rfl ?_
    refine Go.iald (jn := a) dMo_ahead_20 rfl (Nat.lt_of_lt_of_eq (by omega) (K.l_ranks).symm) (by omega) ?_
    refine Go.aload_n dMo_ahead_21 rfl (Nat.ne_of_beq_eq_false rfl) ?_
    refine Go.getR dMo_ahead_22 flMo_51 (Nat.le_of_ble_eq_true rfl) rfl K.r_ranks ?_
    refine Go.iload_n dMo_ahead_25 rfl ?_
    refine Go.iald (jn := b) dMo_ahead_26 rfl (Nat.lt_of_lt_of_eq (by omega) (K.l_ranks).symm) (by omega) ?_
    refine Go.icmp_ge (tgt := 34) dMo_ahead_27 (by decide) (fun q37 => ?_) (fun q37 => ?_)
    · refine Go.iconst (v := nI 0) dMo_ahead_34 (by decide) ?_
      refine Go.iret dMo_ahead_35 rfl rfl (by decide) ?_
      exact ⟨_, rfl, trivial, rfl⟩
    · refine Go.iconst (v := nI 1) dMo_ahead_30 (by decide) ?_
      refine Go.goto (tgt := 35) dMo_ahead_31 (by decide) ?_
      refine Go.iret dMo_ahead_35 rfl rfl (by decide) ?_
      exact ⟨_, rfl, trivial, rfl⟩
set_option maxHeartbeats 2000000 in
theorem lp_Mo_costNow_4 {sc : Nat × (Nat → Int32)} {d bc bs : Nat} {md mt wn : Nat} {nw : Int32} {stf wtf : Nat → Int32} {h0 : AH} {h : AH} {Q : GO → AH → Prop}  (K : KR ((md, mt, wn), nw, stf, wtf) h0 h) (kont0 : ∀ (x : Int32) (z : AV), Go sc false false (d + 0) bc bs mMo_costNow 58 [vO 5 (0), vI x, z] [] h Q) : ∀ (k0 : Nat) (t : Nat) (x : Int32), (t ≤ mt) → mt - t ≤ k0 → Go sc false false (d + 0) bc bs mMo_costNow 4 [vO 5 (0), vI x, vI (nI (t))] [] h Q := by
  intro k0
  induction k0 using Nat.strongRecOn with
  | _ k0 ih =>
    intro t x ht hk0
    have b_md : md ≤ 4 := K.doors_le
    have b_mt : mt ≤ 12 := K.trucks_le
    have b_wn : wn ≤ 12 := K.waits_le
    refine Go.iload_n dMo_costNow_4 rfl ?_
    refine Go.aload_n dMo_costNow_5 rfl (Nat.ne_of_beq_eq_false rfl) ?_
    refine Go.getIv (v := nI (mt)) dMo_costNow_6 flMo_36 (Nat.le_of_ble_eq_true rfl) rfl K.trucks ?_
    refine Go.icmp_ge (tgt := 58) dMo_costNow_9 (by decide) (fun q38 => ?_) (fun q38 => ?_)
    · replace q38 := tle q38 (by omega) (by omega)
      exact Go.weak (kont0  _ _ )
    · replace q38 := tnle q38 (by omega) (by omega)
      refine Go.aload_n dMo_costNow_12 rfl (Nat.ne_of_beq_eq_false rfl) ?_
      refine Go.getR dMo_costNow_13 flMo_39 (Nat.le_of_ble_eq_true rfl) rfl K.r_state ?_
      refine Go.iload_n dMo_costNow_16 rfl ?_
      refine Go.ialdv (v := ((stf (t)))) (jn := t) dMo_costNow_17 rfl (Nat.lt_of_lt_of_eq (by omega) (K.l_state).symm) (by omega) (K.state (t)) ?_
      refine Go.if_ne (tgt := 52) dMo_costNow_18 (by decide) (fun q40 => ?_) (fun q40 => ?_)
      · refine Go.iinc (v := nI (t + 1)) dMo_costNow_52 (by decide) rfl (nI_inc _) rfl ?_
        refine Go.goto (tgt := 4) dMo_costNow_55 (by decide) ?_
        exact Go.weak (ih (mt - ((t + 1))) (by omega) ((t + 1)) _ (by omega) (Nat.le_refl _))
      · refine Go.iload_n dMo_costNow_21 rfl ?_
        refine Go.aload_n dMo_costNow_22 rfl (Nat.ne_of_beq_eq_false rfl) ?_
        refine Go.getR dMo_costNow_23 flMo_54 (Nat.le_of_ble_eq_true rfl) rfl K.r_doorOf ?_
        refine Go.iload_n dMo_costNow_26 rfl ?_
        refine Go.iald (jn := t) dMo_costNow_27 rfl (Nat.lt_of_lt_of_eq (by omega) (K.l_doorOf).symm) (by omega) ?_
        refine Go.if_ge (tgt := 37) dMo_costNow_28 (by decide) (fun q41 => ?_) (fun q41 => ?_)
        · refine Go.aload_n dMo_costNow_37 rfl (Nat.ne_of_beq_eq_false rfl) ?_
          refine Go.getR dMo_costNow_38 flMo_57 (Nat.le_of_ble_eq_true rfl) rfl K.r_start ?_
          refine Go.iload_n dMo_costNow_41 rfl ?_
          refine Go.iald (jn := t) dMo_costNow_42 rfl (Nat.lt_of_lt_of_eq (by omega) (K.l_start).symm) (by omega) ?_
          refine Go.aload_n dMo_costNow_43 rfl (Nat.ne_of_beq_eq_false rfl) ?_
          refine Go.getR dMo_costNow_44 flMo_45 (Nat.le_of_ble_eq_true rfl) rfl K.r_arrival ?_
          refine Go.iload_n dMo_costNow_47 rfl ?_
          refine Go.iald (jn := t) dMo_costNow_48 rfl (Nat.lt_of_lt_of_eq (by omega) (K.l_arrival).symm) (by omega) ?_
          refine Go.isub dMo_costNow_49 ?_
          refine Go.iadd dMo_costNow_50 ?_
          refine Go.istore_n dMo_costNow_51 (by decide) rfl ?_
          refine Go.iinc (v := nI (t + 1)) dMo_costNow_52 (by decide) rfl (nI_inc _) rfl ?_
          refine Go.goto (tgt := 4) dMo_costNow_55 (by decide) ?_
          exact Go.weak (ih (mt - ((t + 1))) (by omega) ((t + 1)) _ (by omega) (Nat.le_refl _))
        · refine Go.sipush (v := nI 5000) dMo_costNow_31 (by decide) ?_
          refine Go.goto (tgt := 50) dMo_costNow_34 (by decide) ?_
          refine Go.iadd dMo_costNow_50 ?_
          refine Go.istore_n dMo_costNow_51 (by decide) rfl ?_
          refine Go.iinc (v := nI (t + 1)) dMo_costNow_52 (by decide) rfl (nI_inc _) rfl ?_
          refine Go.goto (tgt := 4) dMo_costNow_55 (by decide) ?_
          exact Go.weak (ih (mt - ((t + 1))) (by omega) ((t + 1)) _ (by omega) (Nat.le_refl _))
set_option maxHeartbeats 2000000 in
theorem g_Mo_costNow {sc : Nat × (Nat → Int32)} {d bc bs : Nat} {md mt wn : Nat} {nw : Int32} {stf wtf : Nat → Int32} {h0 : AH} {h : AH} (K : KR ((md, mt, wn), nw, stf, wtf) h0 h)  : Go sc true false (d + 0) bc bs mMo_costNow 0 [vO 5 (0), vU, vU] [] h (rP (fun _ => True) h) := by
  have b_md : md ≤ 4 := K.doors_le
  have b_mt : mt ≤ 12 := K.trucks_le
  have b_wn : wn ≤ 12 := K.waits_le
  refine Go.iconst (v := nI 0) dMo_costNow_0 (by decide) ?_
  refine Go.istore_n dMo_costNow_1 (by decide) rfl ?_
  refine Go.iconst (v := nI 0) dMo_costNow_2 (by decide) ?_
  refine Go.istore_n dMo_costNow_3 (by decide) rfl ?_
  refine Go.weak (lp_Mo_costNow_4  K (fun x42 z42 => ?_) _ (0) _ (by omega) (Nat.le_refl _))
  refine Go.iload_n dMo_costNow_58 rfl ?_
  refine Go.iret dMo_costNow_59 rfl rfl (by decide) ?_
  exact ⟨_, rfl, trivial, rfl⟩
set_option maxHeartbeats 2000000 in
theorem g_Mo_nothing {sc : Nat × (Nat → Int32)} {d bc bs : Nat} {md mt wn : Nat} {nw : Int32} {stf wtf : Nat → Int32} {h0 : AH} {h : AH} (K : KR ((md, mt, wn), nw, stf, wtf) h0 h) (t : Nat) (ht : t < 12) : Go sc true false (d + 0) bc bs mMo_nothing 0 [vO 5 (0), vI (nI (t))] [] h (rN (ma_up (ma_up h.1 100 24 t (-1)) 100 25 t (-1), h.2)) := by
  have b_md : md ≤ 4 := K.doors_le
  have b_mt : mt ≤ 12 := K.trucks_le
  have b_wn : wn ≤ 12 := K.waits_le
  refine Go.aload_n dMo_nothing_0 rfl (Nat.ne_of_beq_eq_false rfl) ?_
  refine Go.getR dMo_nothing_1 flMo_54 (Nat.le_of_ble_eq_true rfl) rfl K.r_doorOf ?_
  refine Go.iload_n dMo_nothing_4 rfl ?_
  refine Go.iconst (v := -1) dMo_nothing_5 (by decide) ?_
  refine Go.iast (jn := t) dMo_nothing_6 rfl (Nat.lt_of_lt_of_eq (by omega) (K.l_doorOf).symm) (by omega) ?_
  refine Go.aload_n dMo_nothing_7 rfl (Nat.ne_of_beq_eq_false rfl) ?_
  refine Go.getR dMo_nothing_8 flMo_57 (Nat.le_of_ble_eq_true rfl) rfl K.r_start ?_
  refine Go.iload_n dMo_nothing_11 rfl ?_
  refine Go.iconst (v := -1) dMo_nothing_12 (by decide) ?_
  refine Go.iast (jn := t) dMo_nothing_13 rfl (Nat.lt_of_lt_of_eq (by omega) (K.l_start).symm) (by omega) ?_
  refine Go.vret dMo_nothing_14 rfl (by decide) ?_
  exact ⟨rfl, rfl⟩
set_option maxHeartbeats 2000000 in
theorem g_Mo_thrown {sc : Nat × (Nat → Int32)} {d bc bs : Nat} {md mt wn : Nat} {nw : Int32} {stf wtf : Nat → Int32} {h0 : AH} {h : AH} (K : KR ((md, mt, wn), nw, stf, wtf) h0 h)  : Go sc true false (d + 0) bc bs mMo_thrown 0 [vO 5 (0)] [] h (rV (h.1 5 0 0) h) := by
  have b_md : md ≤ 4 := K.doors_le
  have b_mt : mt ≤ 12 := K.trucks_le
  have b_wn : wn ≤ 12 := K.waits_le
  refine Go.aload_n dMo_thrown_0 rfl (Nat.ne_of_beq_eq_false rfl) ?_
  refine Go.getI dMo_thrown_1 flMo_7 (Nat.le_of_ble_eq_true rfl) rfl ?_
  refine Go.iret dMo_thrown_4 rfl rfl (by decide) ?_
  exact ⟨rfl, rfl⟩
