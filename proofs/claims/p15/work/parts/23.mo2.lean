/-! THE REFERENCE, 2: its calls but for planning -/
set_option maxHeartbeats 2000000 in
theorem g_Mo_exact {sc : Nat × (Nat → Int32)} {d bc bs : Nat} {md mt wn : Nat} {nw : Int32} {stf wtf : Nat → Int32} {h0 : AH} {h : AH} (K : KR ((md, mt, wn), nw, stf, wtf) h0 h)  : Go sc true false (d + 0) bc bs mMo_exact 0 [vO 5 (0)] [] h (PV (fun _ => KR ((md, mt, wn), nw, stf, wtf) h0)) := by
  have b_md : md ≤ 4 := K.doors_le
  have b_mt : mt ≤ 12 := K.trucks_le
  have b_wn : wn ≤ 12 := K.waits_le
  refine Go.aload_n dMo_exact_0 rfl (Nat.ne_of_beq_eq_false rfl) ?_
  refine Go.iconst (v := nI 0) dMo_exact_1 (by decide) ?_
  refine Go.putI dMo_exact_2 fwMo_exact_7 (Nat.le_of_ble_eq_true rfl) rfl ⟨rfl, rfl⟩ ?_
  refine Go.hav (Kp := fun z => KR ((md, mt, wn), nw, stf, wtf) h0 z ∧ z.1 5 0 0 = nI (0) ∧ (∀ c i k, c ≠ 5 → z.1 c i k = h.1 c i k)) ⟨K.up (by omega), up_self, fun _ _ _ hc => up_ne (Or.inl hc)⟩ (fun hh1 K0 => ?_)
  obtain ⟨K, e0, ek⟩ := K0
  refine Go.aload_n dMo_exact_5 rfl (Nat.ne_of_beq_eq_false rfl) ?_
  refine Go.getI dMo_exact_6 flMo_72 (Nat.le_of_ble_eq_true rfl) rfl ?_
  refine Go.iret dMo_exact_9 rfl (by rcases K.ex with z | z <;> rw [z] <;> rfl) (by decide) ?_
  exact ⟨_, rfl, K⟩
set_option maxHeartbeats 2000000 in
theorem g_Mo_moved {sc : Nat × (Nat → Int32)} {d bc bs : Nat} {md mt wn : Nat} {nw : Int32} {stf wtf : Nat → Int32} {h0 : AH} {h : AH} (K : KR ((md, mt, wn), nw, stf, wtf) h0 h)  : Go sc true false (d + 0) bc bs mMo_moved 0 [vO 5 (0)] [] h (PV (fun _ => KR ((md, mt, wn), nw, stf, wtf) h0)) := by
  have b_md : md ≤ 4 := K.doors_le
  have b_mt : mt ≤ 12 := K.trucks_le
  have b_wn : wn ≤ 12 := K.waits_le
  refine Go.aload_n dMo_moved_0 rfl (Nat.ne_of_beq_eq_false rfl) ?_
  refine Go.iconst (v := nI 0) dMo_moved_1 (by decide) ?_
  refine Go.putI dMo_moved_2 fwMo_moved_7 (Nat.le_of_ble_eq_true rfl) rfl ⟨rfl, rfl⟩ ?_
  refine Go.hav (Kp := fun z => KR ((md, mt, wn), nw, stf, wtf) h0 z ∧ z.1 5 0 0 = nI (0) ∧ (∀ c i k, c ≠ 5 → z.1 c i k = h.1 c i k)) ⟨K.up (by omega), up_self, fun _ _ _ hc => up_ne (Or.inl hc)⟩ (fun hh2 K0 => ?_)
  obtain ⟨K, e0, ek⟩ := K0
  refine Go.aload_n dMo_moved_5 rfl (Nat.ne_of_beq_eq_false rfl) ?_
  refine Go.getI dMo_moved_6 flMo_76 (Nat.le_of_ble_eq_true rfl) rfl ?_
  refine Go.iret dMo_moved_9 rfl rfl (by decide) ?_
  exact ⟨_, rfl, K⟩
set_option maxHeartbeats 2000000 in
theorem g_Mo_pass {sc : Nat × (Nat → Int32)} {d bc bs : Nat} {md mt wn : Nat} {nw : Int32} {stf wtf : Nat → Int32} {h0 : AH} {h : AH} (K : KR ((md, mt, wn), nw, stf, wtf) h0 h) (x : Int32) : Go sc true false (d + 0) bc bs mMo_pass 0 [vO 5 (0), vI x] [] h (PN (fun h' => ((nw ≤ x ∧ x ≤ 2000) ∧ KR ((md, mt, wn), x, stf, wtf) h0 h' ∧ h'.1 5 0 0 = 0) ∨ (¬ (nw ≤ x ∧ x ≤ 2000) ∧ KR ((md, mt, wn), nw, stf, wtf) h0 h' ∧ h'.1 5 0 0 = 1))) := by
  have b_md : md ≤ 4 := K.doors_le
  have b_mt : mt ≤ 12 := K.trucks_le
  have b_wn : wn ≤ 12 := K.waits_le
  refine Go.aload_n dMo_pass_0 rfl (Nat.ne_of_beq_eq_false rfl) ?_
  refine Go.iload_n dMo_pass_1 rfl ?_
  refine Go.aload_n dMo_pass_2 rfl (Nat.ne_of_beq_eq_false rfl) ?_
  refine Go.getIv (v := (nw)) dMo_pass_3 flMo_13 (Nat.le_of_ble_eq_true rfl) rfl K.now ?_
  refine Go.icmp_lt (tgt := 16) dMo_pass_6 (by decide) (fun q1 => ?_) (fun q1 => ?_)
  · refine Go.iconst (v := nI 1) dMo_pass_16 (by decide) ?_
    refine Go.goto (tgt := 21) dMo_pass_17 (by decide) ?_
    refine Go.putI dMo_pass_21 fwMo_pass_7 (Nat.le_of_ble_eq_true rfl) rfl ⟨rfl, rfl⟩ ?_
    refine Go.hav (Kp := fun z => KR ((md, mt, wn), nw, stf, wtf) h0 z ∧ z.1 5 0 0 = nI (1) ∧ (∀ c i k, c ≠ 5 → z.1 c i k = h.1 c i k)) ⟨K.up (by omega), up_self, fun _ _ _ hc => up_ne (Or.inl hc)⟩ (fun hh3 K0 => ?_)
    obtain ⟨K, e0, ek⟩ := K0
    refine Go.aload_n dMo_pass_24 rfl (Nat.ne_of_beq_eq_false rfl) ?_
    refine Go.getIv (v := nI (1)) dMo_pass_25 flMo_7 (Nat.le_of_ble_eq_true rfl) rfl e0 ?_
    refine Go.if_ne (tgt := 36) dMo_pass_28 (by decide) (fun q2 => ?_) (fun q2 => ?_)
    · refine Go.vret dMo_pass_36 rfl (by decide) ?_
      first
        | exact ⟨rfl, Or.inl ⟨⟨Int32.not_lt.mp (by assumption), by assumption⟩, K, e0⟩⟩
        | exact ⟨rfl, Or.inr ⟨by rintro ⟨z1, z2⟩; first | contradiction | (exact absurd z1 (Int32.not_le.mpr (by assumption))), K, e0⟩⟩
    · exact absurd q2 (by decide)
  · refine Go.iload_n dMo_pass_9 rfl ?_
    refine Go.sipush (v := nI 2000) dMo_pass_10 (by decide) ?_
    refine Go.icmp_le (tgt := 20) dMo_pass_13 (by decide) (fun q3 => ?_) (fun q3 => ?_)
    · refine Go.iconst (v := nI 0) dMo_pass_20 (by decide) ?_
      refine Go.putI dMo_pass_21 fwMo_pass_7 (Nat.le_of_ble_eq_true rfl) rfl ⟨rfl, rfl⟩ ?_
      refine Go.hav (Kp := fun z => KR ((md, mt, wn), nw, stf, wtf) h0 z ∧ z.1 5 0 0 = nI (0) ∧ (∀ c i k, c ≠ 5 → z.1 c i k = h.1 c i k)) ⟨K.up (by omega), up_self, fun _ _ _ hc => up_ne (Or.inl hc)⟩ (fun hh4 K0 => ?_)
      obtain ⟨K, e0, ek⟩ := K0
      refine Go.aload_n dMo_pass_24 rfl (Nat.ne_of_beq_eq_false rfl) ?_
      refine Go.getIv (v := nI (0)) dMo_pass_25 flMo_7 (Nat.le_of_ble_eq_true rfl) rfl e0 ?_
      refine Go.if_ne (tgt := 36) dMo_pass_28 (by decide) (fun q4 => ?_) (fun q4 => ?_)
      · exact absurd q4 (by decide)
      · refine Go.aload_n dMo_pass_31 rfl (Nat.ne_of_beq_eq_false rfl) ?_
        refine Go.iload_n dMo_pass_32 rfl ?_
        refine Go.putI dMo_pass_33 fwMo_pass_13 (Nat.le_of_ble_eq_true rfl) rfl ⟨rfl, rfl⟩ ?_
        refine Go.hav (Kp := fun z => KR ((md, mt, wn), x, stf, wtf) h0 z ∧ z.1 5 0 0 = 0) ⟨K.upNow, (up_ne (by omega)).trans e0⟩ (fun hh5 K0 => ?_)
        obtain ⟨K, e0⟩ := K0
        refine Go.vret dMo_pass_36 rfl (by decide) ?_
        first
          | exact ⟨rfl, Or.inl ⟨⟨Int32.not_lt.mp (by assumption), by assumption⟩, K, e0⟩⟩
          | exact ⟨rfl, Or.inr ⟨by rintro ⟨z1, z2⟩; first | contradiction | (exact absurd z1 (Int32.not_le.mpr (by assumption))), K, e0⟩⟩
    · refine Go.iconst (v := nI 1) dMo_pass_16 (by decide) ?_
      refine Go.goto (tgt := 21) dMo_pass_17 (by decide) ?_
      refine Go.putI dMo_pass_21 fwMo_pass_7 (Nat.le_of_ble_eq_true rfl) rfl ⟨rfl, rfl⟩ ?_
      refine Go.hav (Kp := fun z => KR ((md, mt, wn), nw, stf, wtf) h0 z ∧ z.1 5 0 0 = nI (1) ∧ (∀ c i k, c ≠ 5 → z.1 c i k = h.1 c i k)) ⟨K.up (by omega), up_self, fun _ _ _ hc => up_ne (Or.inl hc)⟩ (fun hh6 K0 => ?_)
      obtain ⟨K, e0, ek⟩ := K0
      refine Go.aload_n dMo_pass_24 rfl (Nat.ne_of_beq_eq_false rfl) ?_
      refine Go.getIv (v := nI (1)) dMo_pass_25 flMo_7 (Nat.le_of_ble_eq_true rfl) rfl e0 ?_
      refine Go.if_ne (tgt := 36) dMo_pass_28 (by decide) (fun q5 => ?_) (fun q5 => ?_)
      · refine Go.vret dMo_pass_36 rfl (by decide) ?_
        first
          | exact ⟨rfl, Or.inl ⟨⟨Int32.not_lt.mp (by assumption), by assumption⟩, K, e0⟩⟩
          | exact ⟨rfl, Or.inr ⟨by rintro ⟨z1, z2⟩; first | contradiction | (exact absurd z1 (Int32.not_le.mpr (by assumption))), K, e0⟩⟩
      · exact absurd q5 (by decide)
set_option maxHeartbeats 2000000 in
theorem g_Mo_told {sc : Nat × (Nat → Int32)} {d bc bs : Nat} {md mt wn : Nat} {nw : Int32} {stf wtf : Nat → Int32} {h0 : AH} {h : AH} (K : KR ((md, mt, wn), nw, stf, wtf) h0 h) (x y : Int32) : Go sc true false (d + 1) bc bs mMo_told 0 [vO 5 (0), vI x, vI y] [] h (PV (fun _ => KR ((md, mt, wn), nw, stf, wtf) h0)) := by
  have b_md : md ≤ 4 := K.doors_le
  have b_mt : mt ≤ 12 := K.trucks_le
  have b_wn : wn ≤ 12 := K.waits_le
  refine Go.aload_n dMo_told_0 rfl (Nat.ne_of_beq_eq_false rfl) ?_
  refine Go.aload_n dMo_told_1 rfl (Nat.ne_of_beq_eq_false rfl) ?_
  refine Go.iload_n dMo_told_2 rfl ?_
  refine Go.cVr mMo_noTruck [vI x] dMo_told_3 vwMo_152 (Nat.le_of_ble_eq_true rfl) rfl rfl (Nat.le_of_ble_eq_true rfl) rfl (Nat.le_of_ble_eq_true rfl) (g_Mo_noTruck K _) ?_
  rintro v6 (⟨rfl, t6, ht6, rfl⟩ | ⟨rfl, hq6⟩)
  · refine Go.if_eq (tgt := 13) dMo_told_6 (by decide) (fun q7 => ?_) (fun q7 => ?_)
    · refine Go.iload_n dMo_told_13 rfl ?_
      refine Go.iconst (v := nI 0) dMo_told_14 (by decide) ?_
      refine Go.bipush (v := nI 7) dMo_told_15 (by decide) ?_
      refine Go.cSr mMo_not [vI y, vI (nI (0)), vI (nI (7))] dMo_told_17 vwMo_131 rfl rfl (Nat.le_of_ble_eq_true rfl) rfl (Nat.le_of_ble_eq_true rfl) (g_Mo_not _ _ _) ?_
      rintro v8 (⟨rfl, hq8⟩ | ⟨rfl, hq8⟩)
      · refine Go.if_eq (tgt := 27) dMo_told_20 (by decide) (fun q9 => ?_) (fun q9 => ?_)
        · refine Go.iconst (v := nI 0) dMo_told_27 (by decide) ?_
          refine Go.putI dMo_told_28 fwMo_told_7 (Nat.le_of_ble_eq_true rfl) rfl ⟨rfl, rfl⟩ ?_
          refine Go.hav (Kp := fun z => KR ((md, mt, wn), nw, stf, wtf) h0 z ∧ z.1 5 0 0 = nI (0) ∧ (∀ c i k, c ≠ 5 → z.1 c i k = h.1 c i k)) ⟨K.up (by omega), up_self, fun _ _ _ hc => up_ne (Or.inl hc)⟩ (fun hh7 K0 => ?_)
          obtain ⟨K, e0, ek⟩ := K0
          refine Go.aload_n dMo_told_31 rfl (Nat.ne_of_beq_eq_false rfl) ?_
          refine Go.getIv (v := nI (0)) dMo_told_32 flMo_7 (Nat.le_of_ble_eq_true rfl) rfl e0 ?_
          refine Go.if_eq (tgt := 40) dMo_told_35 (by decide) (fun q10 => ?_) (fun q10 => ?_)
          · refine Go.iload_n dMo_told_40 rfl ?_
            rcases sw7 (y) with qs | qs | qs | qs | qs | qs | qs | qs
            · refine Go.tabOut (tgt := 133) dMo_told_41 qs (by decide) ?_
              refine Go.aload_n dMo_told_133 rfl (Nat.ne_of_beq_eq_false rfl) ?_
              refine Go.getR dMo_told_134 flMo_60 (Nat.le_of_ble_eq_true rfl) rfl K.r_gone ?_
              refine Go.iload_n dMo_told_137 rfl ?_
              refine Go.iald (jn := t6) dMo_told_138 rfl (Nat.lt_of_lt_of_eq (by omega) (K.l_gone).symm) (by omega) ?_
              refine Go.iret dMo_told_139 rfl rfl (by decide) ?_
              exact ⟨_, rfl, K⟩
            · rw [qs]
              refine Go.tabIn (off := 43) (tgt := 84) dMo_told_41 (by decide) (by decide) rfl (by decide) ?_
              refine Go.aload_n dMo_told_84 rfl (Nat.ne_of_beq_eq_false rfl) ?_
              refine Go.getR dMo_told_85 flMo_39 (Nat.le_of_ble_eq_true rfl) rfl K.r_state ?_
              refine Go.iload_n dMo_told_88 rfl ?_
              refine Go.ialdv (v := ((stf (t6)))) (jn := t6) dMo_told_89 rfl (Nat.lt_of_lt_of_eq (by omega) (K.l_state).symm) (by omega) (K.state (t6)) ?_
              refine Go.iret dMo_told_90 rfl rfl (by decide) ?_
              exact ⟨_, rfl, K⟩
            · rw [qs]
              refine Go.tabIn (off := 50) (tgt := 91) dMo_told_41 (by decide) (by decide) rfl (by decide) ?_
              refine Go.aload_n dMo_told_91 rfl (Nat.ne_of_beq_eq_false rfl) ?_
              refine Go.getR dMo_told_92 flMo_54 (Nat.le_of_ble_eq_true rfl) rfl K.r_doorOf ?_
              refine Go.iload_n dMo_told_95 rfl ?_
              refine Go.iald (jn := t6) dMo_told_96 rfl (Nat.lt_of_lt_of_eq (by omega) (K.l_doorOf).symm) (by omega) ?_
              refine Go.iret dMo_told_97 rfl rfl (by decide) ?_
              exact ⟨_, rfl, K⟩
            · rw [qs]
              refine Go.tabIn (off := 57) (tgt := 98) dMo_told_41 (by decide) (by decide) rfl (by decide) ?_
              refine Go.aload_n dMo_told_98 rfl (Nat.ne_of_beq_eq_false rfl) ?_
              refine Go.getR dMo_told_99 flMo_57 (Nat.le_of_ble_eq_true rfl) rfl K.r_start ?_
              refine Go.iload_n dMo_told_102 rfl ?_
              refine Go.iald (jn := t6) dMo_told_103 rfl (Nat.lt_of_lt_of_eq (by omega) (K.l_start).symm) (by omega) ?_
              refine Go.iret dMo_told_104 rfl rfl (by decide) ?_
              exact ⟨_, rfl, K⟩
            · rw [qs]
              refine Go.tabIn (off := 64) (tgt := 105) dMo_told_41 (by decide) (by decide) rfl (by decide) ?_
              refine Go.aload_n dMo_told_105 rfl (Nat.ne_of_beq_eq_false rfl) ?_
              refine Go.getR dMo_told_106 flMo_45 (Nat.le_of_ble_eq_true rfl) rfl K.r_arrival ?_
              refine Go.iload_n dMo_told_109 rfl ?_
              refine Go.iald (jn := t6) dMo_told_110 rfl (Nat.lt_of_lt_of_eq (by omega) (K.l_arrival).symm) (by omega) ?_
              refine Go.iret dMo_told_111 rfl rfl (by decide) ?_
              exact ⟨_, rfl, K⟩
            · rw [qs]
              refine Go.tabIn (off := 71) (tgt := 112) dMo_told_41 (by decide) (by decide) rfl (by decide) ?_
              refine Go.aload_n dMo_told_112 rfl (Nat.ne_of_beq_eq_false rfl) ?_
              refine Go.getR dMo_told_113 flMo_48 (Nat.le_of_ble_eq_true rfl) rfl K.r_need ?_
              refine Go.iload_n dMo_told_116 rfl ?_
              refine Go.iald (jn := t6) dMo_told_117 rfl (Nat.lt_of_lt_of_eq (by omega) (K.l_need).symm) (by omega) ?_
              refine Go.iret dMo_told_118 rfl rfl (by decide) ?_
              exact ⟨_, rfl, K⟩
            · rw [qs]
              refine Go.tabIn (off := 78) (tgt := 119) dMo_told_41 (by decide) (by decide) rfl (by decide) ?_
              refine Go.aload_n dMo_told_119 rfl (Nat.ne_of_beq_eq_false rfl) ?_
              refine Go.getR dMo_told_120 flMo_51 (Nat.le_of_ble_eq_true rfl) rfl K.r_ranks ?_
              refine Go.iload_n dMo_told_123 rfl ?_
              refine Go.iald (jn := t6) dMo_told_124 rfl (Nat.lt_of_lt_of_eq (by omega) (K.l_ranks).symm) (by omega) ?_
              refine Go.iret dMo_told_125 rfl rfl (by decide) ?_
              exact ⟨_, rfl, K⟩
            · rw [qs]
              refine Go.tabIn (off := 85) (tgt := 126) dMo_told_41 (by decide) (by decide) rfl (by decide) ?_
              refine Go.aload_n dMo_told_126 rfl (Nat.ne_of_beq_eq_false rfl) ?_
              refine Go.getR dMo_told_127 flMo_42 (Nat.le_of_ble_eq_true rfl) rfl K.r_kind ?_
              refine Go.iload_n dMo_told_130 rfl ?_
              refine Go.iald (jn := t6) dMo_told_131 rfl (Nat.lt_of_lt_of_eq (by omega) (K.l_kind).symm) (by omega) ?_
              refine Go.iret dMo_told_132 rfl rfl (by decide) ?_
              exact ⟨_, rfl, K⟩
          · exact absurd q10 (by decide)
        · exact absurd q9 (by decide)
      · refine Go.if_eq (tgt := 27) dMo_told_20 (by decide) (fun q12 => ?_) (fun q12 => ?_)
        · exact absurd q12 (by decide)
        · refine Go.iconst (v := nI 2) dMo_told_23 (by decide) ?_
          refine Go.goto (tgt := 28) dMo_told_24 (by decide) ?_
          refine Go.putI dMo_told_28 fwMo_told_7 (Nat.le_of_ble_eq_true rfl) rfl ⟨rfl, rfl⟩ ?_
          refine Go.hav (Kp := fun z => KR ((md, mt, wn), nw, stf, wtf) h0 z ∧ z.1 5 0 0 = nI (2) ∧ (∀ c i k, c ≠ 5 → z.1 c i k = h.1 c i k)) ⟨K.up (by omega), up_self, fun _ _ _ hc => up_ne (Or.inl hc)⟩ (fun hh8 K0 => ?_)
          obtain ⟨K, e0, ek⟩ := K0
          refine Go.aload_n dMo_told_31 rfl (Nat.ne_of_beq_eq_false rfl) ?_
          refine Go.getIv (v := nI (2)) dMo_told_32 flMo_7 (Nat.le_of_ble_eq_true rfl) rfl e0 ?_
          refine Go.if_eq (tgt := 40) dMo_told_35 (by decide) (fun q13 => ?_) (fun q13 => ?_)
          · exact absurd q13 (by decide)
          · refine Go.iconst (v := nI 0) dMo_told_38 (by decide) ?_
            refine Go.iret dMo_told_39 rfl rfl (by decide) ?_
            exact ⟨_, rfl, K⟩
    · exact absurd q7 (by decide)
  · refine Go.if_eq (tgt := 13) dMo_told_6 (by decide) (fun q14 => ?_) (fun q14 => ?_)
    · exact absurd q14 (by decide)
    · refine Go.iconst (v := nI 1) dMo_told_9 (by decide) ?_
      refine Go.goto (tgt := 28) dMo_told_10 (by decide) ?_
      refine Go.putI dMo_told_28 fwMo_told_7 (Nat.le_of_ble_eq_true rfl) rfl ⟨rfl, rfl⟩ ?_
      refine Go.hav (Kp := fun z => KR ((md, mt, wn), nw, stf, wtf) h0 z ∧ z.1 5 0 0 = nI (1) ∧ (∀ c i k, c ≠ 5 → z.1 c i k = h.1 c i k)) ⟨K.up (by omega), up_self, fun _ _ _ hc => up_ne (Or.inl hc)⟩ (fun hh9 K0 => ?_)
      obtain ⟨K, e0, ek⟩ := K0
      refine Go.aload_n dMo_told_31 rfl (Nat.ne_of_beq_eq_false rfl) ?_
      refine Go.getIv (v := nI (1)) dMo_told_32 flMo_7 (Nat.le_of_ble_eq_true rfl) rfl e0 ?_
      refine Go.if_eq (tgt := 40) dMo_told_35 (by decide) (fun q15 => ?_) (fun q15 => ?_)
      · exact absurd q15 (by decide)
      · refine Go.iconst (v := nI 0) dMo_told_38 (by decide) ?_
        refine Go.iret dMo_told_39 rfl rfl (by decide) ?_
        exact ⟨_, rfl, K⟩
set_option maxHeartbeats 2000000 in
theorem g_Mo_seal {sc : Nat × (Nat → Int32)} {d bc bs : Nat} {md mt wn : Nat} {nw : Int32} {stf wtf : Nat → Int32} {h0 : AH} {h : AH} (K : KR ((md, mt, wn), nw, stf, wtf) h0 h) (x y : Int32) : Go sc true false (d + 1) bc bs mMo_seal 0 [vO 5 (0), vI x, vI y] [] h (PV (fun _ => KR ((md, mt, wn), nw, stf, wtf) h0)) := by
  have b_md : md ≤ 4 := K.doors_le
  have b_mt : mt ≤ 12 := K.trucks_le
  have b_wn : wn ≤ 12 := K.waits_le
  refine Go.aload_n dMo_seal_0 rfl (Nat.ne_of_beq_eq_false rfl) ?_
  refine Go.aload_n dMo_seal_1 rfl (Nat.ne_of_beq_eq_false rfl) ?_
  refine Go.iload_n dMo_seal_2 rfl ?_
  refine Go.cVr mMo_noTruck [vI x] dMo_seal_3 vwMo_152 (Nat.le_of_ble_eq_true rfl) rfl rfl (Nat.le_of_ble_eq_true rfl) rfl (Nat.le_of_ble_eq_true rfl) (g_Mo_noTruck K _) ?_
  rintro v16 (⟨rfl, t16, ht16, rfl⟩ | ⟨rfl, hq16⟩)
  · refine Go.if_eq (tgt := 13) dMo_seal_6 (by decide) (fun q17 => ?_) (fun q17 => ?_)
    · refine Go.iload_n dMo_seal_13 rfl ?_
      refine Go.iconst (v := nI 0) dMo_seal_14 (by decide) ?_
      refine Go.sipush (v := nI 9999) dMo_seal_15 (by decide) ?_
      refine Go.cSr mMo_not [vI y, vI (nI (0)), vI (nI (9999))] dMo_seal_18 vwMo_131 rfl rfl (Nat.le_of_ble_eq_true rfl) rfl (Nat.le_of_ble_eq_true rfl) (g_Mo_not _ _ _) ?_
      rintro v18 (⟨rfl, hq18⟩ | ⟨rfl, hq18⟩)
      · refine Go.if_eq (tgt := 28) dMo_seal_21 (by decide) (fun q19 => ?_) (fun q19 => ?_)
        · refine Go.aload_n dMo_seal_28 rfl (Nat.ne_of_beq_eq_false rfl) ?_
          refine Go.getR dMo_seal_29 flMo_39 (Nat.le_of_ble_eq_true rfl) rfl K.r_state ?_
          refine Go.iload_n dMo_seal_32 rfl ?_
          refine Go.ialdv (v := ((stf (t16)))) (jn := t16) dMo_seal_33 rfl (Nat.lt_of_lt_of_eq (by omega) (K.l_state).symm) (by omega) (K.state (t16)) ?_
          refine Go.iconst (v := nI 1) dMo_seal_34 (by decide) ?_
          refine Go.icmp_le (tgt := 42) dMo_seal_35 (by decide) (fun q21 => ?_) (fun q21 => ?_)
          · refine Go.iconst (v := nI 0) dMo_seal_42 (by decide) ?_
            refine Go.putI dMo_seal_43 fwMo_seal_7 (Nat.le_of_ble_eq_true rfl) rfl ⟨rfl, rfl⟩ ?_
            refine Go.hav (Kp := fun z => KR ((md, mt, wn), nw, stf, wtf) h0 z ∧ z.1 5 0 0 = nI (0) ∧ (∀ c i k, c ≠ 5 → z.1 c i k = h.1 c i k)) ⟨K.up (by omega), up_self, fun _ _ _ hc => up_ne (Or.inl hc)⟩ (fun hh10 K0 => ?_)
            obtain ⟨K, e0, ek⟩ := K0
            refine Go.aload_n dMo_seal_46 rfl (Nat.ne_of_beq_eq_false rfl) ?_
            refine Go.getIv (v := nI (0)) dMo_seal_47 flMo_7 (Nat.le_of_ble_eq_true rfl) rfl e0 ?_
            refine Go.if_eq (tgt := 55) dMo_seal_50 (by decide) (fun q22 => ?_) (fun q22 => ?_)
            · refine Go.aload_n dMo_seal_55 rfl (Nat.ne_of_beq_eq_false rfl) ?_
              refine Go.getR dMo_seal_56 flMo_63 (Nat.le_of_ble_eq_true rfl) rfl K.r_seals ?_
              refine Go.iload_n dMo_seal_59 rfl ?_
              refine Go.iald (jn := t16) dMo_seal_60 rfl (Nat.lt_of_lt_of_eq (by omega) (K.l_seals).symm) (by omega) ?_
              refine Go.if_ge (tgt := 73) dMo_seal_61 (by decide) (fun q23 => ?_) (fun q23 => ?_)
              · refine Go.aload_n dMo_seal_73 rfl (Nat.ne_of_beq_eq_false rfl) ?_
                refine Go.getR dMo_seal_74 flMo_66 (Nat.le_of_ble_eq_true rfl) rfl K.r_twice ?_
                refine Go.iload_n dMo_seal_77 rfl ?_
                refine Go.aload_n dMo_seal_78 rfl (Nat.ne_of_beq_eq_false rfl) ?_
                refine Go.getR dMo_seal_79 flMo_63 (Nat.le_of_ble_eq_true rfl) rfl K.r_seals ?_
                refine Go.iload_n dMo_seal_82 rfl ?_
                refine Go.iald (jn := t16) dMo_seal_83 rfl (Nat.lt_of_lt_of_eq (by omega) (K.l_seals).symm) (by omega) ?_
                refine Go.iload_n dMo_seal_84 rfl ?_
                refine Go.icmp_ne (tgt := 92) dMo_seal_85 (by decide) (fun q24 => ?_) (fun q24 => ?_)
                · refine Go.iconst (v := nI 0) dMo_seal_92 (by decide) ?_
                  refine Go.zast (jn := t16) dMo_seal_93 rfl (Nat.lt_of_lt_of_eq (by omega) (K.l_twice).symm) (by omega) (by first | exact Or.inl rfl | exact Or.inr rfl | assumption) ?_
                  refine Go.hav (Kp := KR ((md, mt, wn), nw, stf, wtf) h0) (K.up (by omega)) (fun hh11 K => ?_)
                  refine Go.aload_n dMo_seal_94 rfl (Nat.ne_of_beq_eq_false rfl) ?_
                  refine Go.getR dMo_seal_95 flMo_66 (Nat.le_of_ble_eq_true rfl) rfl K.r_twice ?_
                  refine Go.iload_n dMo_seal_98 rfl ?_
                  refine Go.zald (jn := t16) dMo_seal_99 rfl (Nat.lt_of_lt_of_eq (by omega) (K.l_twice).symm) (by omega) ?_
                  refine Go.if_ne (tgt := 110) dMo_seal_100 (by decide) (fun q25 => ?_) (fun q25 => ?_)
                  · refine Go.aload_n dMo_seal_110 rfl (Nat.ne_of_beq_eq_false rfl) ?_
                    refine Go.getR dMo_seal_111 flMo_66 (Nat.le_of_ble_eq_true rfl) rfl K.r_twice ?_
                    refine Go.iload_n dMo_seal_114 rfl ?_
                    refine Go.zald (jn := t16) dMo_seal_115 rfl (Nat.lt_of_lt_of_eq (by omega) (K.l_twice).symm) (by omega) ?_
                    refine Go.if_eq (tgt := 123) dMo_seal_116 (by decide) (fun q26 => ?_) (fun q26 => ?_)
                    · refine Go.iconst (v := nI 2) dMo_seal_123 (by decide) ?_
                      refine Go.iret dMo_seal_124 rfl rfl (by decide) ?_
                      exact ⟨_, rfl, K⟩
                    · refine Go.iconst (v := nI 1) dMo_seal_119 (by decide) ?_
                      refine Go.goto (tgt := 124) dMo_seal_120 (by decide) ?_
                      refine Go.iret dMo_seal_124 rfl rfl (by decide) ?_
                      exact ⟨_, rfl, K⟩
                  · refine Go.aload_n dMo_seal_103 rfl (Nat.ne_of_beq_eq_false rfl) ?_
                    refine Go.getR dMo_seal_104 flMo_63 (Nat.le_of_ble_eq_true rfl) rfl K.r_seals ?_
                    refine Go.iload_n dMo_seal_107 rfl ?_
                    refine Go.iconst (v := -1) dMo_seal_108 (by decide) ?_
                    refine Go.iast (jn := t16) dMo_seal_109 rfl (Nat.lt_of_lt_of_eq (by omega) (K.l_seals).symm) (by omega) ?_
                    refine Go.hav (Kp := KR ((md, mt, wn), nw, stf, wtf) h0) (K.up (by omega)) (fun hh12 K => ?_)
                    refine Go.aload_n dMo_seal_110 rfl (Nat.ne_of_beq_eq_false rfl) ?_
                    refine Go.getR dMo_seal_111 flMo_66 (Nat.le_of_ble_eq_true rfl) rfl K.r_twice ?_
                    refine Go.iload_n dMo_seal_114 rfl ?_
                    refine Go.zald (jn := t16) dMo_seal_115 rfl (Nat.lt_of_lt_of_eq (by omega) (K.l_twice).symm) (by omega) ?_
                    refine Go.if_eq (tgt := 123) dMo_seal_116 (by decide) (fun q27 => ?_) (fun q27 => ?_)
                    · refine Go.iconst (v := nI 2) dMo_seal_123 (by decide) ?_
                      refine Go.iret dMo_seal_124 rfl rfl (by decide) ?_
                      exact ⟨_, rfl, K⟩
                    · refine Go.iconst (v := nI 1) dMo_seal_119 (by decide) ?_
                      refine Go.goto (tgt := 124) dMo_seal_120 (by decide) ?_
                      refine Go.iret dMo_seal_124 rfl rfl (by decide) ?_
                      exact ⟨_, rfl, K⟩
                · refine Go.iconst (v := nI 1) dMo_seal_88 (by decide) ?_
                  refine Go.goto (tgt := 93) dMo_seal_89 (by decide) ?_
                  refine Go.zast (jn := t16) dMo_seal_93 rfl (Nat.lt_of_lt_of_eq (by omega) (K.l_twice).symm) (by omega) (by first | exact Or.inl rfl | exact Or.inr rfl | assumption) ?_
                  refine Go.hav (Kp := KR ((md, mt, wn), nw, stf, wtf) h0) (K.up (by omega)) (fun hh13 K => ?_)
                  refine Go.aload_n dMo_seal_94 rfl (Nat.ne_of_beq_eq_false rfl) ?_
                  refine Go.getR dMo_seal_95 flMo_66 (Nat.le_of_ble_eq_true rfl) rfl K.r_twice ?_
                  refine Go.iload_n dMo_seal_98 rfl ?_
                  refine Go.zald (jn := t16) dMo_seal_99 rfl (Nat.lt_of_lt_of_eq (by omega) (K.l_twice).symm) (by omega) ?_
                  refine Go.if_ne (tgt := 110) dMo_seal_100 (by decide) (fun q28 => ?_) (fun q28 => ?_)
                  · refine Go.aload_n dMo_seal_110 rfl (Nat.ne_of_beq_eq_false rfl) ?_
                    refine Go.getR dMo_seal_111 flMo_66 (Nat.le_of_ble_eq_true rfl) rfl K.r_twice ?_
                    refine Go.iload_n dMo_seal_114 rfl ?_
                    refine Go.zald (jn := t16) dMo_seal_115 rfl (Nat.lt_of_lt_of_eq (by omega) (K.l_twice).symm) (by omega) ?_
                    refine Go.if_eq (tgt := 123) dMo_seal_116 (by decide) (fun q29 => ?_) (fun q29 => ?_)
                    · refine Go.iconst (v := nI 2) dMo_seal_123 (by decide) ?_
                      refine Go.iret dMo_seal_124 rfl rfl (by decide) ?_
                      exact ⟨_, rfl, K⟩
                    · refine Go.iconst (v := nI 1) dMo_seal_119 (by decide) ?_
                      refine Go.goto (tgt := 124) dMo_seal_120 (by decide) ?_
                      refine Go.iret dMo_seal_124 rfl rfl (by decide) ?_
                      exact ⟨_, rfl, K⟩
                  · refine Go.aload_n dMo_seal_103 rfl (Nat.ne_of_beq_eq_false rfl) ?_
                    refine Go.getR dMo_seal_104 flMo_63 (Nat.le_of_ble_eq_true rfl) rfl K.r_seals ?_
                    refine Go.iload_n dMo_seal_107 rfl ?_
                    refine Go.iconst (v := -1) dMo_seal_108 (by decide) ?_
                    refine Go.iast (jn := t16) dMo_seal_109 rfl (Nat.lt_of_lt_of_eq (by omega) (K.l_seals).symm) (by omega) ?_
                    refine Go.hav (Kp := KR ((md, mt, wn), nw, stf, wtf) h0) (K.up (by omega)) (fun hh14 K => ?_)
                    refine Go.aload_n dMo_seal_110 rfl (Nat.ne_of_beq_eq_false rfl) ?_
                    refine Go.getR dMo_seal_111 flMo_66 (Nat.le_of_ble_eq_true rfl) rfl K.r_twice ?_
                    refine Go.iload_n dMo_seal_114 rfl ?_
                    refine Go.zald (jn := t16) dMo_seal_115 rfl (Nat.lt_of_lt_of_eq (by omega) (K.l_twice).symm) (by omega) ?_
                    refine Go.if_eq (tgt := 123) dMo_seal_116 (by decide) (fun q30 => ?_) (fun q30 => ?_)
                    · refine Go.iconst (v := nI 2) dMo_seal_123 (by decide) ?_
                      refine Go.iret dMo_seal_124 rfl rfl (by decide) ?_
                      exact ⟨_, rfl, K⟩
                    · refine Go.iconst (v := nI 1) dMo_seal_119 (by decide) ?_
                      refine Go.goto (tgt := 124) dMo_seal_120 (by decide) ?_
                      refine Go.iret dMo_seal_124 rfl rfl (by decide) ?_
                      exact ⟨_, rfl, K⟩
              · refine Go.aload_n dMo_seal_64 rfl (Nat.ne_of_beq_eq_false rfl) ?_
                refine Go.getR dMo_seal_65 flMo_63 (Nat.le_of_ble_eq_true rfl) rfl K.r_seals ?_
                refine Go.iload_n dMo_seal_68 rfl ?_
                refine Go.iload_n dMo_seal_69 rfl ?_
                refine Go.iast (jn := t16) dMo_seal_70 rfl (Nat.lt_of_lt_of_eq (by omega) (K.l_seals).symm) (by omega) ?_
                refine Go.hav (Kp := KR ((md, mt, wn), nw, stf, wtf) h0) (K.up (by omega)) (fun hh15 K => ?_)
                refine Go.iconst (v := nI 0) dMo_seal_71 (by decide) ?_
                refine Go.iret dMo_seal_72 rfl rfl (by decide) ?_
                exact ⟨_, rfl, K⟩
            · exact absurd q22 (by decide)
          · refine Go.iconst (v := nI 3) dMo_seal_38 (by decide) ?_
            refine Go.goto (tgt := 43) dMo_seal_39 (by decide) ?_
            refine Go.putI dMo_seal_43 fwMo_seal_7 (Nat.le_of_ble_eq_true rfl) rfl ⟨rfl, rfl⟩ ?_
            refine Go.hav (Kp := fun z => KR ((md, mt, wn), nw, stf, wtf) h0 z ∧ z.1 5 0 0 = nI (3) ∧ (∀ c i k, c ≠ 5 → z.1 c i k = h.1 c i k)) ⟨K.up (by omega), up_self, fun _ _ _ hc => up_ne (Or.inl hc)⟩ (fun hh16 K0 => ?_)
            obtain ⟨K, e0, ek⟩ := K0
            refine Go.aload_n dMo_seal_46 rfl (Nat.ne_of_beq_eq_false rfl) ?_
            refine Go.getIv (v := nI (3)) dMo_seal_47 flMo_7 (Nat.le_of_ble_eq_true rfl) rfl e0 ?_
            refine Go.if_eq (tgt := 55) dMo_seal_50 (by decide) (fun q31 => ?_) (fun q31 => ?_)
            · exact absurd q31 (by decide)
            · refine Go.iconst (v := nI 0) dMo_seal_53 (by decide) ?_
              refine Go.iret dMo_seal_54 rfl rfl (by decide) ?_
              exact ⟨_, rfl, K⟩
        · exact absurd q19 (by decide)
      · refine Go.if_eq (tgt := 28) dMo_seal_21 (by decide) (fun q32 => ?_) (fun q32 => ?_)
        · exact absurd q32 (by decide)
        · refine Go.iconst (v := nI 2) dMo_seal_24 (by decide) ?_
          refine Go.goto (tgt := 43) dMo_seal_25 (by decide) ?_
          refine Go.putI dMo_seal_43 fwMo_seal_7 (Nat.le_of_ble_eq_true rfl) rfl ⟨rfl, rfl⟩ ?_
          refine Go.hav (Kp := fun z => KR ((md, mt, wn), nw, stf, wtf) h0 z ∧ z.1 5 0 0 = nI (2) ∧ (∀ c i k, c ≠ 5 → z.1 c i k = h.1 c i k)) ⟨K.up (by omega), up_self, fun _ _ _ hc => up_ne (Or.inl hc)⟩ (fun hh17 K0 => ?_)
          obtain ⟨K, e0, ek⟩ := K0
          refine Go.aload_n dMo_seal_46 rfl (Nat.ne_of_beq_eq_false rfl) ?_
          refine Go.getIv (v := nI (2)) dMo_seal_47 flMo_7 (Nat.le_of_ble_eq_true rfl) rfl e0 ?_
          refine Go.if_eq (tgt := 55) dMo_seal_50 (by decide) (fun q33 => ?_) (fun q33 => ?_)
          · exact absurd q33 (by decide)
          · refine Go.iconst (v := nI 0) dMo_seal_53 (by decide) ?_
            refine Go.iret dMo_seal_54 rfl rfl (by decide) ?_
            exact ⟨_, rfl, K⟩
    · exact absurd q17 (by decide)
  · refine Go.if_eq (tgt := 13) dMo_seal_6 (by decide) (fun q34 => ?_) (fun q34 => ?_)
    · exact absurd q34 (by decide)
    · refine Go.iconst (v := nI 1) dMo_seal_9 (by decide) ?_
      refine Go.goto (tgt := 43) dMo_seal_10 (by decide) ?_
      refine Go.putI dMo_seal_43 fwMo_seal_7 (Nat.le_of_ble_eq_true rfl) rfl ⟨rfl, rfl⟩ ?_
      refine Go.hav (Kp := fun z => KR ((md, mt, wn), nw, stf, wtf) h0 z ∧ z.1 5 0 0 = nI (1) ∧ (∀ c i k, c ≠ 5 → z.1 c i k = h.1 c i k)) ⟨K.up (by omega), up_self, fun _ _ _ hc => up_ne (Or.inl hc)⟩ (fun hh18 K0 => ?_)
      obtain ⟨K, e0, ek⟩ := K0
      refine Go.aload_n dMo_seal_46 rfl (Nat.ne_of_beq_eq_false rfl) ?_
      refine Go.getIv (v := nI (1)) dMo_seal_47 flMo_7 (Nat.le_of_ble_eq_true rfl) rfl e0 ?_
      refine Go.if_eq (tgt := 55) dMo_seal_50 (by decide) (fun q35 => ?_) (fun q35 => ?_)
      · exact absurd q35 (by decide)
      · refine Go.iconst (v := nI 0) dMo_seal_53 (by decide) ?_
        refine Go.iret dMo_seal_54 rfl rfl (by decide) ?_
        exact ⟨_, rfl, K⟩
set_option maxHeartbeats 2000000 in
theorem g_Mo_load {sc : Nat × (Nat → Int32)} {d bc bs : Nat} {md mt wn : Nat} {nw : Int32} {stf wtf : Nat → Int32} {h0 : AH} {h : AH} (K : KR ((md, mt, wn), nw, stf, wtf) h0 h) (x y z : Int32) : Go sc true false (d + 1) bc bs mMo_load 0 [vO 5 (0), vI x, vI y, vI z] [] h (PV (fun _ => KR ((md, mt, wn), nw, stf, wtf) h0)) := by
  have b_md : md ≤ 4 := K.doors_le
  have b_mt : mt ≤ 12 := K.trucks_le
  have b_wn : wn ≤ 12 := K.waits_le
  refine Go.aload_n dMo_load_0 rfl (Nat.ne_of_beq_eq_false rfl) ?_
  refine Go.aload_n dMo_load_1 rfl (Nat.ne_of_beq_eq_false rfl) ?_
  refine Go.iload_n dMo_load_2 rfl ?_
  refine Go.cVr mMo_noTruck [vI x] dMo_load_3 vwMo_152 (Nat.le_of_ble_eq_true rfl) rfl rfl (Nat.le_of_ble_eq_true rfl) rfl (Nat.le_of_ble_eq_true rfl) (g_Mo_noTruck K _) ?_
  rintro v36 (⟨rfl, t36, ht36, rfl⟩ | ⟨rfl, hq36⟩)
  · refine Go.if_eq (tgt := 13) dMo_load_6 (by decide) (fun q37 => ?_) (fun q37 => ?_)
    · refine Go.iload_n dMo_load_13 rfl ?_
      refine Go.iconst (v := nI 0) dMo_load_14 (by decide) ?_
      refine Go.sipush (v := nI 10000) dMo_load_15 (by decide) ?_
      refine Go.cSr mMo_not [vI y, vI (nI (0)), vI (nI (10000))] dMo_load_18 vwMo_131 rfl rfl (Nat.le_of_ble_eq_true rfl) rfl (Nat.le_of_ble_eq_true rfl) (g_Mo_not _ _ _) ?_
      rintro v38 (⟨rfl, hq38⟩ | ⟨rfl, hq38⟩)
      · refine Go.if_ne (tgt := 35) dMo_load_21 (by decide) (fun q39 => ?_) (fun q39 => ?_)
        · exact absurd q39 (by decide)
        · refine Go.iload_n dMo_load_24 rfl ?_
          refine Go.iconst (v := nI 0) dMo_load_25 (by decide) ?_
          refine Go.sipush (v := nI 10000) dMo_load_26 (by decide) ?_
          refine Go.cSr mMo_not [vI z, vI (nI (0)), vI (nI (10000))] dMo_load_29 vwMo_131 rfl rfl (Nat.le_of_ble_eq_true rfl) rfl (Nat.le_of_ble_eq_true rfl) (g_Mo_not _ _ _) ?_
          rintro v40 (⟨rfl, hq40⟩ | ⟨rfl, hq40⟩)
          · refine Go.if_eq (tgt := 39) dMo_load_32 (by decide) (fun q41 => ?_) (fun q41 => ?_)
            · refine Go.aload_n dMo_load_39 rfl (Nat.ne_of_beq_eq_false rfl) ?_
              refine Go.getR dMo_load_40 flMo_39 (Nat.le_of_ble_eq_true rfl) rfl K.r_state ?_
              refine Go.iload_n dMo_load_43 rfl ?_
              refine Go.ialdv (v := ((stf (t36)))) (jn := t36) dMo_load_44 rfl (Nat.lt_of_lt_of_eq (by omega) (K.l_state).symm) (by omega) (K.state (t36)) ?_
              refine Go.iconst (v := nI 1) dMo_load_45 (by decide) ?_
              refine Go.icmp_eq (tgt := 53) dMo_load_46 (by decide) (fun q43 => ?_) (fun q43 => ?_)
              · refine Go.iconst (v := nI 0) dMo_load_53 (by decide) ?_
                refine Go.putI dMo_load_54 fwMo_load_7 (Nat.le_of_ble_eq_true rfl) rfl ⟨rfl, rfl⟩ ?_
                refine Go.hav (Kp := fun z => KR ((md, mt, wn), nw, stf, wtf) h0 z ∧ z.1 5 0 0 = nI (0) ∧ (∀ c i k, c ≠ 5 → z.1 c i k = h.1 c i k)) ⟨K.up (by omega), up_self, fun _ _ _ hc => up_ne (Or.inl hc)⟩ (fun hh19 K0 => ?_)
                obtain ⟨K, e0, ek⟩ := K0
                refine Go.aload_n dMo_load_57 rfl (Nat.ne_of_beq_eq_false rfl) ?_
                refine Go.getIv (v := nI (0)) dMo_load_58 flMo_7 (Nat.le_of_ble_eq_true rfl) rfl e0 ?_
                refine Go.if_eq (tgt := 66) dMo_load_61 (by decide) (fun q44 => ?_) (fun q44 => ?_)
                · refine Go.aload_n dMo_load_66 rfl (Nat.ne_of_beq_eq_false rfl) ?_
                  refine Go.getR dMo_load_67 flMo_69 (Nat.le_of_ble_eq_true rfl) rfl K.r_same ?_
                  refine Go.iload_n dMo_load_70 rfl ?_
                  refine Go.iload_n dMo_load_71 rfl ?_
                  refine Go.iload_n dMo_load_72 rfl ?_
                  refine Go.icmp_ne (tgt := 80) dMo_load_73 (by decide) (fun q45 => ?_) (fun q45 => ?_)
                  · refine Go.iconst (v := nI 0) dMo_load_80 (by decide) ?_
                    refine Go.zast (jn := t36) dMo_load_81 rfl (Nat.lt_of_lt_of_eq (by omega) (K.l_same).symm) (by omega) (by first | exact Or.inl rfl | exact Or.inr rfl | assumption) ?_
                    refine Go.hav (Kp := fun z => KR ((md, mt, wn), nw, stf, wtf) h0 z ∧ z.1 102 2 (t36) = nI (0)) ⟨K.up (by omega), up_self⟩ (fun hh20 K0 => ?_)
                    obtain ⟨K, e9⟩ := K0
                    refine Go.aload_n dMo_load_82 rfl (Nat.ne_of_beq_eq_false rfl) ?_
                    refine Go.getR dMo_load_83 flMo_69 (Nat.le_of_ble_eq_true rfl) rfl K.r_same ?_
                    refine Go.iload_n dMo_load_86 rfl ?_
                    refine Go.zaldv (v := nI (0)) (jn := t36) dMo_load_87 rfl (Nat.lt_of_lt_of_eq (by omega) (K.l_same).symm) (by omega) e9 ?_
                    refine Go.iret dMo_load_88 rfl rfl (by decide) ?_
                    exact ⟨_, rfl, K⟩
                  · refine Go.iconst (v := nI 1) dMo_load_76 (by decide) ?_
                    refine Go.goto (tgt := 81) dMo_load_77 (by decide) ?_
                    refine Go.zast (jn := t36) dMo_load_81 rfl (Nat.lt_of_lt_of_eq (by omega) (K.l_same).symm) (by omega) (by first | exact Or.inl rfl | exact Or.inr rfl | assumption) ?_
                    refine Go.hav (Kp := fun z => KR ((md, mt, wn), nw, stf, wtf) h0 z ∧ z.1 102 2 (t36) = nI (1)) ⟨K.up (by omega), up_self⟩ (fun hh21 K0 => ?_)
                    obtain ⟨K, e9⟩ := K0
                    refine Go.aload_n dMo_load_82 rfl (Nat.ne_of_beq_eq_false rfl) ?_
                    refine Go.getR dMo_load_83 flMo_69 (Nat.le_of_ble_eq_true rfl) rfl K.r_same ?_
                    refine Go.iload_n dMo_load_86 rfl ?_
                    refine Go.zaldv (v := nI (1)) (jn := t36) dMo_load_87 rfl (Nat.lt_of_lt_of_eq (by omega) (K.l_same).symm) (by omega) e9 ?_
                    refine Go.iret dMo_load_88 rfl rfl (by decide) ?_
                    exact ⟨_, rfl, K⟩
                · exact absurd q44 (by decide)
              · refine Go.iconst (v := nI 3) dMo_load_49 (by decide) ?_
                refine Go.goto (tgt := 54) dMo_load_50 (by decide) ?_
                refine Go.putI dMo_load_54 fwMo_load_7 (Nat.le_of_ble_eq_true rfl) rfl ⟨rfl, rfl⟩ ?_
                refine Go.hav (Kp := fun z => KR ((md, mt, wn), nw, stf, wtf) h0 z ∧ z.1 5 0 0 = nI (3) ∧ (∀ c i k, c ≠ 5 → z.1 c i k = h.1 c i k)) ⟨K.up (by omega), up_self, fun _ _ _ hc => up_ne (Or.inl hc)⟩ (fun hh22 K0 => ?_)
                obtain ⟨K, e0, ek⟩ := K0
                refine Go.aload_n dMo_load_57 rfl (Nat.ne_of_beq_eq_false rfl) ?_
                refine Go.getIv (v := nI (3)) dMo_load_58 flMo_7 (Nat.le_of_ble_eq_true rfl) rfl e0 ?_
                refine Go.if_eq (tgt := 66) dMo_load_61 (by decide) (fun q48 => ?_) (fun q48 => ?_)
                · exact absurd q48 (by decide)
                · refine Go.iconst (v := nI 0) dMo_load_64 (by decide) ?_
                  refine Go.iret dMo_load_65 rfl rfl (by decide) ?_
                  exact ⟨_, rfl, K⟩
            · exact absurd q41 (by decide)
          · refine Go.if_eq (tgt := 39) dMo_load_32 (by decide) (fun q49 => ?_) (fun q49 => ?_)
            · exact absurd q49 (by decide)
            · refine Go.iconst (v := nI 2) dMo_load_35 (by decide) ?_
              refine Go.goto (tgt := 54) dMo_load_36 (by decide) ?_
              refine Go.putI dMo_load_54 fwMo_load_7 (Nat.le_of_ble_eq_true rfl) rfl ⟨rfl, rfl⟩ ?_
              refine Go.hav (Kp := fun z => KR ((md, mt, wn), nw, stf, wtf) h0 z ∧ z.1 5 0 0 = nI (2) ∧ (∀ c i k, c ≠ 5 → z.1 c i k = h.1 c i k)) ⟨K.up (by omega), up_self, fun _ _ _ hc => up_ne (Or.inl hc)⟩ (fun hh23 K0 => ?_)
              obtain ⟨K, e0, ek⟩ := K0
              refine Go.aload_n dMo_load_57 rfl (Nat.ne_of_beq_eq_false rfl) ?_
              refine Go.getIv (v := nI (2)) dMo_load_58 flMo_7 (Nat.le_of_ble_eq_true rfl) rfl e0 ?_
              refine Go.if_eq (tgt := 66) dMo_load_61 (by decide) (fun q50 => ?_) (fun q50 => ?_)
              · exact absurd q50 (by decide)
              · refine Go.iconst (v := nI 0) dMo_load_64 (by decide) ?_
                refine Go.iret dMo_load_65 rfl rfl (by decide) ?_
                exact ⟨_, rfl, K⟩
      · refine Go.if_ne (tgt := 35) dMo_load_21 (by decide) (fun q51 => ?_) (fun q51 => ?_)
        · refine Go.iconst (v := nI 2) dMo_load_35 (by decide) ?_
          refine Go.goto (tgt := 54) dMo_load_36 (by decide) ?_
          refine Go.putI dMo_load_54 fwMo_load_7 (Nat.le_of_ble_eq_true rfl) rfl ⟨rfl, rfl⟩ ?_
          refine Go.hav (Kp := fun z => KR ((md, mt, wn), nw, stf, wtf) h0 z ∧ z.1 5 0 0 = nI (2) ∧ (∀ c i k, c ≠ 5 → z.1 c i k = h.1 c i k)) ⟨K.up (by omega), up_self, fun _ _ _ hc => up_ne (Or.inl hc)⟩ (fun hh24 K0 => ?_)
          obtain ⟨K, e0, ek⟩ := K0
          refine Go.aload_n dMo_load_57 rfl (Nat.ne_of_beq_eq_false rfl) ?_
          refine Go.getIv (v := nI (2)) dMo_load_58 flMo_7 (Nat.le_of_ble_eq_true rfl) rfl e0 ?_
          refine Go.if_eq (tgt := 66) dMo_load_61 (by decide) (fun q52 => ?_) (fun q52 => ?_)
          · exact absurd q52 (by decide)
          · refine Go.iconst (v := nI 0) dMo_load_64 (by decide) ?_
            refine Go.iret dMo_load_65 rfl rfl (by decide) ?_
            exact ⟨_, rfl, K⟩
        · exact absurd q51 (by decide)
    · exact absurd q37 (by decide)
  · refine Go.if_eq (tgt := 13) dMo_load_6 (by decide) (fun q53 => ?_) (fun q53 => ?_)
    · exact absurd q53 (by decide)
    · refine Go.iconst (v := nI 1) dMo_load_9 (by decide) ?_
      refine Go.goto (tgt := 54) dMo_load_10 (by decide) ?_
      refine Go.putI dMo_load_54 fwMo_load_7 (Nat.le_of_ble_eq_true rfl) rfl ⟨rfl, rfl⟩ ?_
      refine Go.hav (Kp := fun z => KR ((md, mt, wn), nw, stf, wtf) h0 z ∧ z.1 5 0 0 = nI (1) ∧ (∀ c i k, c ≠ 5 → z.1 c i k = h.1 c i k)) ⟨K.up (by omega), up_self, fun _ _ _ hc => up_ne (Or.inl hc)⟩ (fun hh25 K0 => ?_)
      obtain ⟨K, e0, ek⟩ := K0
      refine Go.aload_n dMo_load_57 rfl (Nat.ne_of_beq_eq_false rfl) ?_
      refine Go.getIv (v := nI (1)) dMo_load_58 flMo_7 (Nat.le_of_ble_eq_true rfl) rfl e0 ?_
      refine Go.if_eq (tgt := 66) dMo_load_61 (by decide) (fun q54 => ?_) (fun q54 => ?_)
      · exact absurd q54 (by decide)
      · refine Go.iconst (v := nI 0) dMo_load_64 (by decide) ?_
        refine Go.iret dMo_load_65 rfl rfl (by decide) ?_
        exact ⟨_, rfl, K⟩
set_option maxHeartbeats 2000000 in
theorem g_Mo_late {sc : Nat × (Nat → Int32)} {d bc bs : Nat} {md mt wn : Nat} {nw : Int32} {stf wtf : Nat → Int32} {h0 : AH} {h : AH} (K : KR ((md, mt, wn), nw, stf, wtf) h0 h) (x y : Int32) : Go sc true false (d + 1) bc bs mMo_late 0 [vO 5 (0), vI x, vI y, vU] [] h (PV (fun _ => KR ((md, mt, wn), nw, stf, wtf) h0)) := by
  have b_md : md ≤ 4 := K.doors_le
  have b_mt : mt ≤ 12 := K.trucks_le
  have b_wn : wn ≤ 12 := K.waits_le
  refine Go.aload_n dMo_late_0 rfl (Nat.ne_of_beq_eq_false rfl) ?_
  refine Go.aload_n dMo_late_1 rfl (Nat.ne_of_beq_eq_false rfl) ?_
  refine Go.iload_n dMo_late_2 rfl ?_
  refine Go.cVr mMo_noTruck [vI x] dMo_late_3 vwMo_152 (Nat.le_of_ble_eq_true rfl) rfl rfl (Nat.le_of_ble_eq_true rfl) rfl (Nat.le_of_ble_eq_true rfl) (g_Mo_noTruck K _) ?_
  rintro v55 (⟨rfl, t55, ht55, rfl⟩ | ⟨rfl, hq55⟩)
  · refine Go.if_eq (tgt := 13) dMo_late_6 (by decide) (fun q56 => ?_) (fun q56 => ?_)
    · refine Go.iload_n dMo_late_13 rfl ?_
      refine Go.iconst (v := nI 0) dMo_late_14 (by decide) ?_
      refine Go.sipush (v := nI 2000) dMo_late_15 (by decide) ?_
      refine Go.cSr mMo_not [vI y, vI (nI (0)), vI (nI (2000))] dMo_late_18 vwMo_131 rfl rfl (Nat.le_of_ble_eq_true rfl) rfl (Nat.le_of_ble_eq_true rfl) (g_Mo_not _ _ _) ?_
      rintro v57 (⟨rfl, hq57⟩ | ⟨rfl, hq57⟩)
      · refine Go.if_eq (tgt := 28) dMo_late_21 (by decide) (fun q58 => ?_) (fun q58 => ?_)
        · refine Go.aload_n dMo_late_28 rfl (Nat.ne_of_beq_eq_false rfl) ?_
          refine Go.getR dMo_late_29 flMo_39 (Nat.le_of_ble_eq_true rfl) rfl K.r_state ?_
          refine Go.iload_n dMo_late_32 rfl ?_
          refine Go.ialdv (v := ((stf (t55)))) (jn := t55) dMo_late_33 rfl (Nat.lt_of_lt_of_eq (by omega) (K.l_state).symm) (by omega) (K.state (t55)) ?_
          refine Go.if_eq (tgt := 41) dMo_late_34 (by decide) (fun q60 => ?_) (fun q60 => ?_)
          · refine Go.iconst (v := nI 0) dMo_late_41 (by decide) ?_
            refine Go.putI dMo_late_42 fwMo_late_7 (Nat.le_of_ble_eq_true rfl) rfl ⟨rfl, rfl⟩ ?_
            refine Go.hav (Kp := fun z => KR ((md, mt, wn), nw, stf, wtf) h0 z ∧ z.1 5 0 0 = nI (0) ∧ (∀ c i k, c ≠ 5 → z.1 c i k = h.1 c i k)) ⟨K.up (by omega), up_self, fun _ _ _ hc => up_ne (Or.inl hc)⟩ (fun hh26 K0 => ?_)
            obtain ⟨K, e0, ek⟩ := K0
            refine Go.aload_n dMo_late_45 rfl (Nat.ne_of_beq_eq_false rfl) ?_
            refine Go.getIv (v := nI (0)) dMo_late_46 flMo_7 (Nat.le_of_ble_eq_true rfl) rfl e0 ?_
            refine Go.if_eq (tgt := 54) dMo_late_49 (by decide) (fun q61 => ?_) (fun q61 => ?_)
            · refine Go.aload_n dMo_late_54 rfl (Nat.ne_of_beq_eq_false rfl) ?_
              refine Go.getR dMo_late_55 flMo_54 (Nat.le_of_ble_eq_true rfl) rfl K.r_doorOf ?_
              refine Go.iload_n dMo_late_58 rfl ?_
              refine Go.iald (jn := t55) dMo_late_59 rfl (Nat.lt_of_lt_of_eq (by omega) (K.l_doorOf).symm) (by omega) ?_
              refine Go.if_lt (tgt := 67) dMo_late_60 (by decide) (fun q62 => ?_) (fun q62 => ?_)
              · refine Go.iconst (v := nI 0) dMo_late_67 (by decide) ?_
                refine Go.istore_n dMo_late_68 (by decide) rfl ?_
                refine Go.aload_n dMo_late_69 rfl (Nat.ne_of_beq_eq_false rfl) ?_
                refine Go.getR dMo_late_70 flMo_45 (Nat.le_of_ble_eq_true rfl) rfl K.r_arrival ?_
                refine Go.iload_n dMo_late_73 rfl ?_
                refine Go.iload_n dMo_late_74 rfl ?_
                refine Go.iast (jn := t55) dMo_late_75 rfl (Nat.lt_of_lt_of_eq (by omega) (K.l_arrival).symm) (by omega) ?_
                refine Go.hav (Kp := KR ((md, mt, wn), nw, stf, wtf) h0) (K.up (by omega)) (fun hh27 K => ?_)
                refine Go.aload_n dMo_late_76 rfl (Nat.ne_of_beq_eq_false rfl) ?_
                refine Go.getR dMo_late_77 flMo_57 (Nat.le_of_ble_eq_true rfl) rfl K.r_start ?_
                refine Go.iload_n dMo_late_80 rfl ?_
                refine Go.iald (jn := t55) dMo_late_81 rfl (Nat.lt_of_lt_of_eq (by omega) (K.l_start).symm) (by omega) ?_
                refine Go.iload_n dMo_late_82 rfl ?_
                refine Go.icmp_ge (tgt := 91) dMo_late_83 (by decide) (fun q63 => ?_) (fun q63 => ?_)
                · refine Go.iload_n dMo_late_91 rfl ?_
                  refine Go.iret dMo_late_92 rfl rfl (by decide) ?_
                  exact ⟨_, rfl, K⟩
                · refine Go.aload_n dMo_late_86 rfl (Nat.ne_of_beq_eq_false rfl) ?_
                  refine Go.iload_n dMo_late_87 rfl ?_
                  refine Go.cVf mMo_nothing [vI (nI (t55))] dMo_late_88 vwMo_135 (Nat.le_of_ble_eq_true rfl) rfl rfl (Nat.le_of_ble_eq_true rfl) rfl (Nat.le_of_ble_eq_true rfl) (g_Mo_nothing K (t55) (by omega)) ?_
                  refine Go.hav (Kp := KR ((md, mt, wn), nw, stf, wtf) h0) ((K.upDoorOf (x := t55) (Or.inl rfl) (fun z => absurd (q60.symm.trans z) (by decide))).up (by omega)) (fun hh28 K => ?_)
                  refine Go.iload_n dMo_late_91 rfl ?_
                  refine Go.iret dMo_late_92 rfl rfl (by decide) ?_
                  exact ⟨_, rfl, K⟩
              · refine Go.iconst (v := nI 1) dMo_late_63 (by decide) ?_
                refine Go.goto (tgt := 68) dMo_late_64 (by decide) ?_
                refine Go.istore_n dMo_late_68 (by decide) rfl ?_
                refine Go.aload_n dMo_late_69 rfl (Nat.ne_of_beq_eq_false rfl) ?_
                refine Go.getR dMo_late_70 flMo_45 (Nat.le_of_ble_eq_true rfl) rfl K.r_arrival ?_
                refine Go.iload_n dMo_late_73 rfl ?_
                refine Go.iload_n dMo_late_74 rfl ?_
                refine Go.iast (jn := t55) dMo_late_75 rfl (Nat.lt_of_lt_of_eq (by omega) (K.l_arrival).symm) (by omega) ?_
                refine Go.hav (Kp := KR ((md, mt, wn), nw, stf, wtf) h0) (K.up (by omega)) (fun hh29 K => ?_)
                refine Go.aload_n dMo_late_76 rfl (Nat.ne_of_beq_eq_false rfl) ?_
                refine Go.getR dMo_late_77 flMo_57 (Nat.le_of_ble_eq_true rfl) rfl K.r_start ?_
                refine Go.iload_n dMo_late_80 rfl ?_
                refine Go.iald (jn := t55) dMo_late_81 rfl (Nat.lt_of_lt_of_eq (by omega) (K.l_start).symm) (by omega) ?_
                refine Go.iload_n dMo_late_82 rfl ?_
                refine Go.icmp_ge (tgt := 91) dMo_late_83 (by decide) (fun q64 => ?_) (fun q64 => ?_)
                · refine Go.iload_n dMo_late_91 rfl ?_
                  refine Go.iret dMo_late_92 rfl rfl (by decide) ?_
                  exact ⟨_, rfl, K⟩
                · refine Go.aload_n dMo_late_86 rfl (Nat.ne_of_beq_eq_false rfl) ?_
                  refine Go.iload_n dMo_late_87 rfl ?_
                  refine Go.cVf mMo_nothing [vI (nI (t55))] dMo_late_88 vwMo_135 (Nat.le_of_ble_eq_true rfl) rfl rfl (Nat.le_of_ble_eq_true rfl) rfl (Nat.le_of_ble_eq_true rfl) (g_Mo_nothing K (t55) (by omega)) ?_
                  refine Go.hav (Kp := KR ((md, mt, wn), nw, stf, wtf) h0) ((K.upDoorOf (x := t55) (Or.inl rfl) (fun z => absurd (q60.symm.trans z) (by decide))).up (by omega)) (fun hh30 K => ?_)
                  refine Go.iload_n dMo_late_91 rfl ?_
                  refine Go.iret dMo_late_92 rfl rfl (by decide) ?_
                  exact ⟨_, rfl, K⟩
            · exact absurd q61 (by decide)
          · refine Go.iconst (v := nI 3) dMo_late_37 (by decide) ?_
            refine Go.goto (tgt := 42) dMo_late_38 (by decide) ?_
            refine Go.putI dMo_late_42 fwMo_late_7 (Nat.le_of_ble_eq_true rfl) rfl ⟨rfl, rfl⟩ ?_
            refine Go.hav (Kp := fun z => KR ((md, mt, wn), nw, stf, wtf) h0 z ∧ z.1 5 0 0 = nI (3) ∧ (∀ c i k, c ≠ 5 → z.1 c i k = h.1 c i k)) ⟨K.up (by omega), up_self, fun _ _ _ hc => up_ne (Or.inl hc)⟩ (fun hh31 K0 => ?_)
            obtain ⟨K, e0, ek⟩ := K0
            refine Go.aload_n dMo_late_45 rfl (Nat.ne_of_beq_eq_false rfl) ?_
            refine Go.getIv (v := nI (3)) dMo_late_46 flMo_7 (Nat.le_of_ble_eq_true rfl) rfl e0 ?_
            refine Go.if_eq (tgt := 54) dMo_late_49 (by decide) (fun q65 => ?_) (fun q65 => ?_)
            · exact absurd q65 (by decide)
            · refine Go.iconst (v := nI 0) dMo_late_52 (by decide) ?_
              refine Go.iret dMo_late_53 rfl rfl (by decide) ?_
              exact ⟨_, rfl, K⟩
        · exact absurd q58 (by decide)
      · refine Go.if_eq (tgt := 28) dMo_late_21 (by decide) (fun q66 => ?_) (fun q66 => ?_)
        · exact absurd q66 (by decide)
        · refine Go.iconst (v := nI 2) dMo_late_24 (by decide) ?_
          refine Go.goto (tgt := 42) dMo_late_25 (by decide) ?_
          refine Go.putI dMo_late_42 fwMo_late_7 (Nat.le_of_ble_eq_true rfl) rfl ⟨rfl, rfl⟩ ?_
          refine Go.hav (Kp := fun z => KR ((md, mt, wn), nw, stf, wtf) h0 z ∧ z.1 5 0 0 = nI (2) ∧ (∀ c i k, c ≠ 5 → z.1 c i k = h.1 c i k)) ⟨K.up (by omega), up_self, fun _ _ _ hc => up_ne (Or.inl hc)⟩ (fun hh32 K0 => ?_)
          obtain ⟨K, e0, ek⟩ := K0
          refine Go.aload_n dMo_late_45 rfl (Nat.ne_of_beq_eq_false rfl) ?_
          refine Go.getIv (v := nI (2)) dMo_late_46 flMo_7 (Nat.le_of_ble_eq_true rfl) rfl e0 ?_
          refine Go.if_eq (tgt := 54) dMo_late_49 (by decide) (fun q67 => ?_) (fun q67 => ?_)
          · exact absurd q67 (by decide)
          · refine Go.iconst (v := nI 0) dMo_late_52 (by decide) ?_
            refine Go.iret dMo_late_53 rfl rfl (by decide) ?_
            exact ⟨_, rfl, K⟩
    · exact absurd q56 (by decide)
  · refine Go.if_eq (tgt := 13) dMo_late_6 (by decide) (fun q68 => ?_) (fun q68 => ?_)
    · exact absurd q68 (by decide)
    · refine Go.iconst (v := nI 1) dMo_late_9 (by decide) ?_
      refine Go.goto (tgt := 42) dMo_late_10 (by decide) ?_
      refine Go.putI dMo_late_42 fwMo_late_7 (Nat.le_of_ble_eq_true rfl) rfl ⟨rfl, rfl⟩ ?_
      refine Go.hav (Kp := fun z => KR ((md, mt, wn), nw, stf, wtf) h0 z ∧ z.1 5 0 0 = nI (1) ∧ (∀ c i k, c ≠ 5 → z.1 c i k = h.1 c i k)) ⟨K.up (by omega), up_self, fun _ _ _ hc => up_ne (Or.inl hc)⟩ (fun hh33 K0 => ?_)
      obtain ⟨K, e0, ek⟩ := K0
      refine Go.aload_n dMo_late_45 rfl (Nat.ne_of_beq_eq_false rfl) ?_
      refine Go.getIv (v := nI (1)) dMo_late_46 flMo_7 (Nat.le_of_ble_eq_true rfl) rfl e0 ?_
      refine Go.if_eq (tgt := 54) dMo_late_49 (by decide) (fun q69 => ?_) (fun q69 => ?_)
      · exact absurd q69 (by decide)
      · refine Go.iconst (v := nI 0) dMo_late_52 (by decide) ?_
        refine Go.iret dMo_late_53 rfl rfl (by decide) ?_
        exact ⟨_, rfl, K⟩
set_option maxHeartbeats 2000000 in
theorem g_Mo_cancel {sc : Nat × (Nat → Int32)} {d bc bs : Nat} {md mt wn : Nat} {nw : Int32} {stf wtf : Nat → Int32} {h0 : AH} {h : AH} (K : KR ((md, mt, wn), nw, stf, wtf) h0 h) (x : Int32) : Go sc true false (d + 1) bc bs mMo_cancel 0 [vO 5 (0), vI x] [] h (PN (fun h' => ∃ s2, KR ((md, mt, wn), nw, s2, wtf) h0 h')) := by
  have b_md : md ≤ 4 := K.doors_le
  have b_mt : mt ≤ 12 := K.trucks_le
  have b_wn : wn ≤ 12 := K.waits_le
  refine Go.aload_n dMo_cancel_0 rfl (Nat.ne_of_beq_eq_false rfl) ?_
  refine Go.aload_n dMo_cancel_1 rfl (Nat.ne_of_beq_eq_false rfl) ?_
  refine Go.iload_n dMo_cancel_2 rfl ?_
  refine Go.cVr mMo_noTruck [vI x] dMo_cancel_3 vwMo_152 (Nat.le_of_ble_eq_true rfl) rfl rfl (Nat.le_of_ble_eq_true rfl) rfl (Nat.le_of_ble_eq_true rfl) (g_Mo_noTruck K _) ?_
  rintro v70 (⟨rfl, t70, ht70, rfl⟩ | ⟨rfl, hq70⟩)
  · refine Go.if_eq (tgt := 13) dMo_cancel_6 (by decide) (fun q71 => ?_) (fun q71 => ?_)
    · refine Go.aload_n dMo_cancel_13 rfl (Nat.ne_of_beq_eq_false rfl) ?_
      refine Go.getR dMo_cancel_14 flMo_39 (Nat.le_of_ble_eq_true rfl) rfl K.r_state ?_
      refine Go.iload_n dMo_cancel_17 rfl ?_
      refine Go.ialdv (v := ((stf (t70)))) (jn := t70) dMo_cancel_18 rfl (Nat.lt_of_lt_of_eq (by omega) (K.l_state).symm) (by omega) (K.state (t70)) ?_
      refine Go.if_eq (tgt := 26) dMo_cancel_19 (by decide) (fun q73 => ?_) (fun q73 => ?_)
      · refine Go.iconst (v := nI 0) dMo_cancel_26 (by decide) ?_
        refine Go.putI dMo_cancel_27 fwMo_cancel_7 (Nat.le_of_ble_eq_true rfl) rfl ⟨rfl, rfl⟩ ?_
        refine Go.hav (Kp := fun z => KR ((md, mt, wn), nw, stf, wtf) h0 z ∧ z.1 5 0 0 = nI (0) ∧ (∀ c i k, c ≠ 5 → z.1 c i k = h.1 c i k)) ⟨K.up (by omega), up_self, fun _ _ _ hc => up_ne (Or.inl hc)⟩ (fun hh34 K0 => ?_)
        obtain ⟨K, e0, ek⟩ := K0
        refine Go.aload_n dMo_cancel_30 rfl (Nat.ne_of_beq_eq_false rfl) ?_
        refine Go.getIv (v := nI (0)) dMo_cancel_31 flMo_7 (Nat.le_of_ble_eq_true rfl) rfl e0 ?_
        refine Go.if_eq (tgt := 38) dMo_cancel_34 (by decide) (fun q74 => ?_) (fun q74 => ?_)
        · refine Go.aload_n dMo_cancel_38 rfl (Nat.ne_of_beq_eq_false rfl) ?_
          refine Go.getR dMo_cancel_39 flMo_39 (Nat.le_of_ble_eq_true rfl) rfl K.r_state ?_
          refine Go.iload_n dMo_cancel_42 rfl ?_
          refine Go.iconst (v := nI 3) dMo_cancel_43 (by decide) ?_
          refine Go.iast (jn := t70) dMo_cancel_44 rfl (Nat.lt_of_lt_of_eq (by omega) (K.l_state).symm) (by omega) ?_
          refine Go.hav (Kp := KR ((md, mt, wn), nw, (f_up stf (t70) (nI 3)), wtf) h0) (K.upState (x := t70) ⟨3, by decide, rfl⟩ (by omega) (fun z => absurd z (by decide))) (fun hh35 K => ?_)
          refine Go.aload_n dMo_cancel_45 rfl (Nat.ne_of_beq_eq_false rfl) ?_
          refine Go.iload_n dMo_cancel_46 rfl ?_
          refine Go.cVf mMo_nothing [vI (nI (t70))] dMo_cancel_47 vwMo_135 (Nat.le_of_ble_eq_true rfl) rfl rfl (Nat.le_of_ble_eq_true rfl) rfl (Nat.le_of_ble_eq_true rfl) (g_Mo_nothing K (t70) (by omega)) ?_
          refine Go.hav (Kp := KR ((md, mt, wn), nw, (f_up stf (t70) (nI 3)), wtf) h0) ((K.upDoorOf (x := t70) (Or.inl rfl) (fun z => absurd ((f_up_self _ _ _).symm.trans z) (by decide))).up (by omega)) (fun hh36 K => ?_)
          refine Go.vret dMo_cancel_50 rfl (by decide) ?_
          exact ⟨rfl, _, K⟩
        · exact absurd q74 (by decide)
      · refine Go.iconst (v := nI 2) dMo_cancel_22 (by decide) ?_
        refine Go.goto (tgt := 27) dMo_cancel_23 (by decide) ?_
        refine Go.putI dMo_cancel_27 fwMo_cancel_7 (Nat.le_of_ble_eq_true rfl) rfl ⟨rfl, rfl⟩ ?_
        refine Go.hav (Kp := fun z => KR ((md, mt, wn), nw, stf, wtf) h0 z ∧ z.1 5 0 0 = nI (2) ∧ (∀ c i k, c ≠ 5 → z.1 c i k = h.1 c i k)) ⟨K.up (by omega), up_self, fun _ _ _ hc => up_ne (Or.inl hc)⟩ (fun hh37 K0 => ?_)
        obtain ⟨K, e0, ek⟩ := K0
        refine Go.aload_n dMo_cancel_30 rfl (Nat.ne_of_beq_eq_false rfl) ?_
        refine Go.getIv (v := nI (2)) dMo_cancel_31 flMo_7 (Nat.le_of_ble_eq_true rfl) rfl e0 ?_
        refine Go.if_eq (tgt := 38) dMo_cancel_34 (by decide) (fun q75 => ?_) (fun q75 => ?_)
        · exact absurd q75 (by decide)
        · refine Go.vret dMo_cancel_37 rfl (by decide) ?_
          exact ⟨rfl, _, K⟩
    · exact absurd q71 (by decide)
  · refine Go.if_eq (tgt := 13) dMo_cancel_6 (by decide) (fun q76 => ?_) (fun q76 => ?_)
    · exact absurd q76 (by decide)
    · refine Go.iconst (v := nI 1) dMo_cancel_9 (by decide) ?_
      refine Go.goto (tgt := 27) dMo_cancel_10 (by decide) ?_
      refine Go.putI dMo_cancel_27 fwMo_cancel_7 (Nat.le_of_ble_eq_true rfl) rfl ⟨rfl, rfl⟩ ?_
      refine Go.hav (Kp := fun z => KR ((md, mt, wn), nw, stf, wtf) h0 z ∧ z.1 5 0 0 = nI (1) ∧ (∀ c i k, c ≠ 5 → z.1 c i k = h.1 c i k)) ⟨K.up (by omega), up_self, fun _ _ _ hc => up_ne (Or.inl hc)⟩ (fun hh38 K0 => ?_)
      obtain ⟨K, e0, ek⟩ := K0
      refine Go.aload_n dMo_cancel_30 rfl (Nat.ne_of_beq_eq_false rfl) ?_
      refine Go.getIv (v := nI (1)) dMo_cancel_31 flMo_7 (Nat.le_of_ble_eq_true rfl) rfl e0 ?_
      refine Go.if_eq (tgt := 38) dMo_cancel_34 (by decide) (fun q77 => ?_) (fun q77 => ?_)
      · exact absurd q77 (by decide)
      · refine Go.vret dMo_cancel_37 rfl (by decide) ?_
        exact ⟨rfl, _, K⟩
set_option maxHeartbeats 2000000 in
theorem g_Mo_call {sc : Nat × (Nat → Int32)} {d bc bs : Nat} {md mt wn : Nat} {nw : Int32} {stf wtf : Nat → Int32} {h0 : AH} {h : AH} (K : KR ((md, mt, wn), nw, stf, wtf) h0 h) (x : Int32) : Go sc true false (d + 1) bc bs mMo_call 0 [vO 5 (0), vI x, vU] [] h (PN (fun h' => ∃ s2, KR ((md, mt, wn), nw, s2, wtf) h0 h')) := by
  have b_md : md ≤ 4 := K.doors_le
  have b_mt : mt ≤ 12 := K.trucks_le
  have b_wn : wn ≤ 12 := K.waits_le
  refine Go.aload_n dMo_call_0 rfl (Nat.ne_of_beq_eq_false rfl) ?_
  refine Go.aload_n dMo_call_1 rfl (Nat.ne_of_beq_eq_false rfl) ?_
  refine Go.iload_n dMo_call_2 rfl ?_
  refine Go.cVr mMo_noTruck [vI x] dMo_call_3 vwMo_152 (Nat.le_of_ble_eq_true rfl) rfl rfl (Nat.le_of_ble_eq_true rfl) rfl (Nat.le_of_ble_eq_true rfl) (g_Mo_noTruck K _) ?_
  rintro v78 (⟨rfl, t78, ht78, rfl⟩ | ⟨rfl, hq78⟩)
  · refine Go.if_eq (tgt := 13) dMo_call_6 (by decide) (fun q79 => ?_) (fun q79 => ?_)
    · refine Go.aload_n dMo_call_13 rfl (Nat.ne_of_beq_eq_false rfl) ?_
      refine Go.getR dMo_call_14 flMo_39 (Nat.le_of_ble_eq_true rfl) rfl K.r_state ?_
      refine Go.iload_n dMo_call_17 rfl ?_
      refine Go.ialdv (v := ((stf (t78)))) (jn := t78) dMo_call_18 rfl (Nat.lt_of_lt_of_eq (by omega) (K.l_state).symm) (by omega) (K.state (t78)) ?_
      refine Go.if_ne (tgt := 31) dMo_call_19 (by decide) (fun q81 => ?_) (fun q81 => ?_)
      · refine Go.iconst (v := nI 2) dMo_call_31 (by decide) ?_
        refine Go.goto (tgt := 36) dMo_call_32 (by decide) ?_
        refine Go.putI dMo_call_36 fwMo_call_7 (Nat.le_of_ble_eq_true rfl) rfl ⟨rfl, rfl⟩ ?_
        refine Go.hav (Kp := fun z => KR ((md, mt, wn), nw, stf, wtf) h0 z ∧ z.1 5 0 0 = nI (2) ∧ (∀ c i k, c ≠ 5 → z.1 c i k = h.1 c i k)) ⟨K.up (by omega), up_self, fun _ _ _ hc => up_ne (Or.inl hc)⟩ (fun hh39 K0 => ?_)
        obtain ⟨K, e0, ek⟩ := K0
        refine Go.aload_n dMo_call_39 rfl (Nat.ne_of_beq_eq_false rfl) ?_
        refine Go.getIv (v := nI (2)) dMo_call_40 flMo_7 (Nat.le_of_ble_eq_true rfl) rfl e0 ?_
        refine Go.if_eq (tgt := 47) dMo_call_43 (by decide) (fun q82 => ?_) (fun q82 => ?_)
        · exact absurd q82 (by decide)
        · refine Go.vret dMo_call_46 rfl (by decide) ?_
          exact ⟨rfl, _, K⟩
      · refine Go.aload_n dMo_call_22 rfl (Nat.ne_of_beq_eq_false rfl) ?_
        refine Go.getR dMo_call_23 flMo_54 (Nat.le_of_ble_eq_true rfl) rfl K.r_doorOf ?_
        refine Go.iload_n dMo_call_26 rfl ?_
        refine Go.iald (jn := t78) dMo_call_27 rfl (Nat.lt_of_lt_of_eq (by omega) (K.l_doorOf).symm) (by omega) ?_
        refine Go.if_ge (tgt := 35) dMo_call_28 (by decide) (fun q83 => ?_) (fun q83 => ?_)
        · refine Go.iconst (v := nI 0) dMo_call_35 (by decide) ?_
          refine Go.putI dMo_call_36 fwMo_call_7 (Nat.le_of_ble_eq_true rfl) rfl ⟨rfl, rfl⟩ ?_
          refine Go.hav (Kp := fun z => KR ((md, mt, wn), nw, stf, wtf) h0 z ∧ z.1 5 0 0 = nI (0) ∧ (∀ c i k, c ≠ 5 → z.1 c i k = h.1 c i k)) ⟨K.up (by omega), up_self, fun _ _ _ hc => up_ne (Or.inl hc)⟩ (fun hh40 K0 => ?_)
          obtain ⟨K, e0, ek⟩ := K0
          refine Go.aload_n dMo_call_39 rfl (Nat.ne_of_beq_eq_false rfl) ?_
          refine Go.getIv (v := nI (0)) dMo_call_40 flMo_7 (Nat.le_of_ble_eq_true rfl) rfl e0 ?_
          refine Go.if_eq (tgt := 47) dMo_call_43 (by decide) (fun q84 => ?_) (fun q84 => ?_)
          · obtain ⟨jd, hjd, ed⟩ : inR 4 (hh40.1 100 24 (t78)) := (K.doorOf (t78) (by omega)).resolve_left (fun z => absurd q83 (by rw [← ek 100 24 (t78) (by decide), z]; decide))
            refine Go.aload_n dMo_call_47 rfl (Nat.ne_of_beq_eq_false rfl) ?_
            refine Go.getR dMo_call_48 flMo_54 (Nat.le_of_ble_eq_true rfl) rfl K.r_doorOf ?_
            refine Go.iload_n dMo_call_51 rfl ?_
            refine Go.ialdv (v := nI (jd)) (jn := t78) dMo_call_52 rfl (Nat.lt_of_lt_of_eq (by omega) (K.l_doorOf).symm) (by omega) ed ?_
            refine Go.istore_n dMo_call_53 (by decide) rfl ?_
            refine Go.aload_n dMo_call_54 rfl (Nat.ne_of_beq_eq_false rfl) ?_
            refine Go.getR dMo_call_55 flMo_57 (Nat.le_of_ble_eq_true rfl) rfl K.r_start ?_
            refine Go.iload_n dMo_call_58 rfl ?_
            refine Go.iald (jn := t78) dMo_call_59 rfl (Nat.lt_of_lt_of_eq (by omega) (K.l_start).symm) (by omega) ?_
            refine Go.aload_n dMo_call_60 rfl (Nat.ne_of_beq_eq_false rfl) ?_
            refine Go.getIv (v := (nw)) dMo_call_61 flMo_13 (Nat.le_of_ble_eq_true rfl) rfl K.now ?_
            refine Go.icmp_gt (tgt := 104) dMo_call_64 (by decide) (fun q86 => ?_) (fun q86 => ?_)
            · refine Go.aload_n dMo_call_104 rfl (Nat.ne_of_beq_eq_false rfl) ?_
              refine Go.iconst (v := nI 2) dMo_call_105 (by decide) ?_
              refine Go.putI dMo_call_106 fwMo_call_7 (Nat.le_of_ble_eq_true rfl) rfl ⟨rfl, rfl⟩ ?_
              refine Go.hav (Kp := fun z => KR ((md, mt, wn), nw, stf, wtf) h0 z ∧ z.1 100 24 (t78) = nI jd ∧ z.1 5 0 0 = nI (2) ∧ (∀ c i k, c ≠ 5 → z.1 c i k = hh40.1 c i k)) ⟨K.up (by omega), (up_ne (by omega)).trans ed, up_self, fun _ _ _ hc => up_ne (Or.inl hc)⟩ (fun hh41 K0 => ?_)
              obtain ⟨K, ed, e0, ek⟩ := K0
              refine Go.vret dMo_call_109 rfl (by decide) ?_
              exact ⟨rfl, _, K⟩
            · refine Go.aload_n dMo_call_67 rfl (Nat.ne_of_beq_eq_false rfl) ?_
              refine Go.getR dMo_call_68 flMo_29 (Nat.le_of_ble_eq_true rfl) rfl K.r_isOut ?_
              refine Go.iload_n dMo_call_71 rfl ?_
              refine Go.zald (jn := jd) dMo_call_72 rfl (Nat.lt_of_lt_of_eq (by omega) (K.l_isOut).symm) (by omega) ?_
              refine Go.if_ne (tgt := 104) dMo_call_73 (by decide) (fun q87 => ?_) (fun q87 => ?_)
              · refine Go.aload_n dMo_call_104 rfl (Nat.ne_of_beq_eq_false rfl) ?_
                refine Go.iconst (v := nI 2) dMo_call_105 (by decide) ?_
                refine Go.putI dMo_call_106 fwMo_call_7 (Nat.le_of_ble_eq_true rfl) rfl ⟨rfl, rfl⟩ ?_
                refine Go.hav (Kp := fun z => KR ((md, mt, wn), nw, stf, wtf) h0 z ∧ z.1 100 24 (t78) = nI jd ∧ z.1 5 0 0 = nI (2) ∧ (∀ c i k, c ≠ 5 → z.1 c i k = hh40.1 c i k)) ⟨K.up (by omega), (up_ne (by omega)).trans ed, up_self, fun _ _ _ hc => up_ne (Or.inl hc)⟩ (fun hh42 K0 => ?_)
                obtain ⟨K, ed, e0, ek⟩ := K0
                refine Go.vret dMo_call_109 rfl (by decide) ?_
                exact ⟨rfl, _, K⟩
              · refine Go.aload_n dMo_call_76 rfl (Nat.ne_of_beq_eq_false rfl) ?_
                refine Go.iload_n dMo_call_77 rfl ?_
                refine Go.cVr mMo_at [vI (nI (jd))] dMo_call_78 vwMo_103 (Nat.le_of_ble_eq_true rfl) rfl rfl (Nat.le_of_ble_eq_true rfl) rfl (Nat.le_of_ble_eq_true rfl) (g_Mo_at K _  ) ?_
                rintro v88 (rfl | ⟨t88, ht88, rfl⟩)
                · refine Go.if_ge (tgt := 104) dMo_call_81 (by decide) (fun q89 => ?_) (fun q89 => ?_)
                  · exact absurd q89 (by decide)
                  · refine Go.aload_n dMo_call_84 rfl (Nat.ne_of_beq_eq_false rfl) ?_
                    refine Go.getIv (v := (nw)) dMo_call_85 flMo_13 (Nat.le_of_ble_eq_true rfl) rfl K.now ?_
                    refine Go.aload_n dMo_call_88 rfl (Nat.ne_of_beq_eq_false rfl) ?_
                    refine Go.getR dMo_call_89 flMo_48 (Nat.le_of_ble_eq_true rfl) rfl K.r_need ?_
                    refine Go.iload_n dMo_call_92 rfl ?_
                    refine Go.iald (jn := t78) dMo_call_93 rfl (Nat.lt_of_lt_of_eq (by omega) (K.l_need).symm) (by omega) ?_
                    refine Go.iadd dMo_call_94 ?_
                    refine Go.aload_n dMo_call_95 rfl (Nat.ne_of_beq_eq_false rfl) ?_
                    refine Go.getR dMo_call_96 flMo_26 (Nat.le_of_ble_eq_true rfl) rfl K.r_closes ?_
                    refine Go.iload_n dMo_call_99 rfl ?_
                    refine Go.iald (jn := jd) dMo_call_100 rfl (Nat.lt_of_lt_of_eq (by omega) (K.l_closes).symm) (by omega) ?_
                    refine Go.icmp_le (tgt := 110) dMo_call_101 (by decide) (fun q90 => ?_) (fun q90 => ?_)
                    · refine Go.aload_n dMo_call_110 rfl (Nat.ne_of_beq_eq_false rfl) ?_
                      refine Go.getR dMo_call_111 flMo_39 (Nat.le_of_ble_eq_true rfl) rfl K.r_state ?_
                      refine Go.iload_n dMo_call_114 rfl ?_
                      refine Go.iconst (v := nI 1) dMo_call_115 (by decide) ?_
                      refine Go.iast (jn := t78) dMo_call_116 rfl (Nat.lt_of_lt_of_eq (by omega) (K.l_state).symm) (by omega) ?_
                      refine Go.hav (Kp := fun z => KR ((md, mt, wn), nw, (f_up stf (t78) (nI 1)), wtf) h0 z ∧ z.1 100 24 (t78) = nI jd) ⟨K.upState (x := t78) ⟨1, by decide, rfl⟩ (by omega) (fun _ => ⟨jd, hjd, ed⟩), (up_ne (by omega)).trans ed⟩ (fun hh43 K0 => ?_)
                      obtain ⟨K, ed⟩ := K0
                      refine Go.aload_n dMo_call_117 rfl (Nat.ne_of_beq_eq_false rfl) ?_
                      refine Go.getR dMo_call_118 flMo_57 (Nat.le_of_ble_eq_true rfl) rfl K.r_start ?_
                      refine Go.iload_n dMo_call_121 rfl ?_
                      refine Go.aload_n dMo_call_122 rfl (Nat.ne_of_beq_eq_false rfl) ?_
                      refine Go.getIv (v := (nw)) dMo_call_123 flMo_13 (Nat.le_of_ble_eq_true rfl) rfl K.now ?_
                      refine Go.iast (jn := t78) dMo_call_126 rfl (Nat.lt_of_lt_of_eq (by omega) (K.l_start).symm) (by omega) ?_
                      refine Go.hav (Kp := fun z => KR ((md, mt, wn), nw, (f_up stf (t78) (nI 1)), wtf) h0 z ∧ z.1 100 24 (t78) = nI jd) ⟨K.up (by omega), (up_ne (by omega)).trans ed⟩ (fun hh44 K0 => ?_)
                      obtain ⟨K, ed⟩ := K0
                      refine Go.vret dMo_call_127 rfl (by decide) ?_
                      exact ⟨rfl, _, K⟩
                    · refine Go.aload_n dMo_call_104 rfl (Nat.ne_of_beq_eq_false rfl) ?_
                      refine Go.iconst (v := nI 2) dMo_call_105 (by decide) ?_
                      refine Go.putI dMo_call_106 fwMo_call_7 (Nat.le_of_ble_eq_true rfl) rfl ⟨rfl, rfl⟩ ?_
                      refine Go.hav (Kp := fun z => KR ((md, mt, wn), nw, stf, wtf) h0 z ∧ z.1 100 24 (t78) = nI jd ∧ z.1 5 0 0 = nI (2) ∧ (∀ c i k, c ≠ 5 → z.1 c i k = hh40.1 c i k)) ⟨K.up (by omega), (up_ne (by omega)).trans ed, up_self, fun _ _ _ hc => up_ne (Or.inl hc)⟩ (fun hh45 K0 => ?_)
                      obtain ⟨K, ed, e0, ek⟩ := K0
                      refine Go.vret dMo_call_109 rfl (by decide) ?_
                      exact ⟨rfl, _, K⟩
                · refine Go.if_ge (tgt := 104) dMo_call_81 (by decide) (fun q91 => ?_) (fun q91 => ?_)
                  · refine Go.aload_n dMo_call_104 rfl (Nat.ne_of_beq_eq_false rfl) ?_
                    refine Go.iconst (v := nI 2) dMo_call_105 (by decide) ?_
                    refine Go.putI dMo_call_106 fwMo_call_7 (Nat.le_of_ble_eq_true rfl) rfl ⟨rfl, rfl⟩ ?_
                    refine Go.hav (Kp := fun z => KR ((md, mt, wn), nw, stf, wtf) h0 z ∧ z.1 100 24 (t78) = nI jd ∧ z.1 5 0 0 = nI (2) ∧ (∀ c i k, c ≠ 5 → z.1 c i k = hh40.1 c i k)) ⟨K.up (by omega), (up_ne (by omega)).trans ed, up_self, fun _ _ _ hc => up_ne (Or.inl hc)⟩ (fun hh46 K0 => ?_)
                    obtain ⟨K, ed, e0, ek⟩ := K0
                    refine Go.vret dMo_call_109 rfl (by decide) ?_
                    exact ⟨rfl, _, K⟩
                  · exact absurd (nI_pos' (by omega)) q91
          · exact absurd q84 (by decide)
        · refine Go.iconst (v := nI 2) dMo_call_31 (by decide) ?_
          refine Go.goto (tgt := 36) dMo_call_32 (by decide) ?_
          refine Go.putI dMo_call_36 fwMo_call_7 (Nat.le_of_ble_eq_true rfl) rfl ⟨rfl, rfl⟩ ?_
          refine Go.hav (Kp := fun z => KR ((md, mt, wn), nw, stf, wtf) h0 z ∧ z.1 5 0 0 = nI (2) ∧ (∀ c i k, c ≠ 5 → z.1 c i k = h.1 c i k)) ⟨K.up (by omega), up_self, fun _ _ _ hc => up_ne (Or.inl hc)⟩ (fun hh47 K0 => ?_)
          obtain ⟨K, e0, ek⟩ := K0
          refine Go.aload_n dMo_call_39 rfl (Nat.ne_of_beq_eq_false rfl) ?_
          refine Go.getIv (v := nI (2)) dMo_call_40 flMo_7 (Nat.le_of_ble_eq_true rfl) rfl e0 ?_
          refine Go.if_eq (tgt := 47) dMo_call_43 (by decide) (fun q92 => ?_) (fun q92 => ?_)
          · exact absurd q92 (by decide)
          · refine Go.vret dMo_call_46 rfl (by decide) ?_
            exact ⟨rfl, _, K⟩
    · exact absurd q79 (by decide)
  · refine Go.if_eq (tgt := 13) dMo_call_6 (by decide) (fun q93 => ?_) (fun q93 => ?_)
    · exact absurd q93 (by decide)
    · refine Go.iconst (v := nI 1) dMo_call_9 (by decide) ?_
      refine Go.goto (tgt := 36) dMo_call_10 (by decide) ?_
      refine Go.putI dMo_call_36 fwMo_call_7 (Nat.le_of_ble_eq_true rfl) rfl ⟨rfl, rfl⟩ ?_
      refine Go.hav (Kp := fun z => KR ((md, mt, wn), nw, stf, wtf) h0 z ∧ z.1 5 0 0 = nI (1) ∧ (∀ c i k, c ≠ 5 → z.1 c i k = h.1 c i k)) ⟨K.up (by omega), up_self, fun _ _ _ hc => up_ne (Or.inl hc)⟩ (fun hh48 K0 => ?_)
      obtain ⟨K, e0, ek⟩ := K0
      refine Go.aload_n dMo_call_39 rfl (Nat.ne_of_beq_eq_false rfl) ?_
      refine Go.getIv (v := nI (1)) dMo_call_40 flMo_7 (Nat.le_of_ble_eq_true rfl) rfl e0 ?_
      refine Go.if_eq (tgt := 47) dMo_call_43 (by decide) (fun q94 => ?_) (fun q94 => ?_)
      · exact absurd q94 (by decide)
      · refine Go.vret dMo_call_46 rfl (by decide) ?_
        exact ⟨rfl, _, K⟩
set_option maxHeartbeats 2000000 in
theorem g_Mo_depart {sc : Nat × (Nat → Int32)} {d bc bs : Nat} {md mt wn : Nat} {nw : Int32} {stf wtf : Nat → Int32} {h0 : AH} {h : AH} (K : KR ((md, mt, wn), nw, stf, wtf) h0 h) (x : Int32) : Go sc true false (d + 1) bc bs mMo_depart 0 [vO 5 (0), vI x] [] h (PV (fun _ h' => ∃ s2, KR ((md, mt, wn), nw, s2, wtf) h0 h')) := by
  have b_md : md ≤ 4 := K.doors_le
  have b_mt : mt ≤ 12 := K.trucks_le
  have b_wn : wn ≤ 12 := K.waits_le
  refine Go.aload_n dMo_depart_0 rfl (Nat.ne_of_beq_eq_false rfl) ?_
  refine Go.aload_n dMo_depart_1 rfl (Nat.ne_of_beq_eq_false rfl) ?_
  refine Go.iload_n dMo_depart_2 rfl ?_
  refine Go.cVr mMo_noTruck [vI x] dMo_depart_3 vwMo_152 (Nat.le_of_ble_eq_true rfl) rfl rfl (Nat.le_of_ble_eq_true rfl) rfl (Nat.le_of_ble_eq_true rfl) (g_Mo_noTruck K _) ?_
  rintro v95 (⟨rfl, t95, ht95, rfl⟩ | ⟨rfl, hq95⟩)
  · refine Go.if_eq (tgt := 13) dMo_depart_6 (by decide) (fun q96 => ?_) (fun q96 => ?_)
    · refine Go.aload_n dMo_depart_13 rfl (Nat.ne_of_beq_eq_false rfl) ?_
      refine Go.getR dMo_depart_14 flMo_39 (Nat.le_of_ble_eq_true rfl) rfl K.r_state ?_
      refine Go.iload_n dMo_depart_17 rfl ?_
      refine Go.ialdv (v := ((stf (t95)))) (jn := t95) dMo_depart_18 rfl (Nat.lt_of_lt_of_eq (by omega) (K.l_state).symm) (by omega) (K.state (t95)) ?_
      refine Go.iconst (v := nI 1) dMo_depart_19 (by decide) ?_
      refine Go.icmp_eq (tgt := 27) dMo_depart_20 (by decide) (fun q98 => ?_) (fun q98 => ?_)
      · refine Go.iconst (v := nI 0) dMo_depart_27 (by decide) ?_
        refine Go.putI dMo_depart_28 fwMo_depart_7 (Nat.le_of_ble_eq_true rfl) rfl ⟨rfl, rfl⟩ ?_
        refine Go.hav (Kp := fun z => KR ((md, mt, wn), nw, stf, wtf) h0 z ∧ z.1 5 0 0 = nI (0) ∧ (∀ c i k, c ≠ 5 → z.1 c i k = h.1 c i k)) ⟨K.up (by omega), up_self, fun _ _ _ hc => up_ne (Or.inl hc)⟩ (fun hh49 K0 => ?_)
        obtain ⟨K, e0, ek⟩ := K0
        refine Go.aload_n dMo_depart_31 rfl (Nat.ne_of_beq_eq_false rfl) ?_
        refine Go.getIv (v := nI (0)) dMo_depart_32 flMo_7 (Nat.le_of_ble_eq_true rfl) rfl e0 ?_
        refine Go.if_eq (tgt := 40) dMo_depart_35 (by decide) (fun q99 => ?_) (fun q99 => ?_)
        · refine Go.aload_n dMo_depart_40 rfl (Nat.ne_of_beq_eq_false rfl) ?_
          refine Go.getR dMo_depart_41 flMo_66 (Nat.le_of_ble_eq_true rfl) rfl K.r_twice ?_
          refine Go.iload_n dMo_depart_44 rfl ?_
          refine Go.zald (jn := t95) dMo_depart_45 rfl (Nat.lt_of_lt_of_eq (by omega) (K.l_twice).symm) (by omega) ?_
          refine Go.if_ne (tgt := 51) dMo_depart_46 (by decide) (fun q100 => ?_) (fun q100 => ?_)
          · refine Go.aload_n dMo_depart_51 rfl (Nat.ne_of_beq_eq_false rfl) ?_
            refine Go.getR dMo_depart_52 flMo_69 (Nat.le_of_ble_eq_true rfl) rfl K.r_same ?_
            refine Go.iload_n dMo_depart_55 rfl ?_
            refine Go.zald (jn := t95) dMo_depart_56 rfl (Nat.lt_of_lt_of_eq (by omega) (K.l_same).symm) (by omega) ?_
            refine Go.if_ne (tgt := 62) dMo_depart_57 (by decide) (fun q101 => ?_) (fun q101 => ?_)
            · refine Go.aload_n dMo_depart_62 rfl (Nat.ne_of_beq_eq_false rfl) ?_
              refine Go.getR dMo_depart_63 flMo_57 (Nat.le_of_ble_eq_true rfl) rfl K.r_start ?_
              refine Go.iload_n dMo_depart_66 rfl ?_
              refine Go.iald (jn := t95) dMo_depart_67 rfl (Nat.lt_of_lt_of_eq (by omega) (K.l_start).symm) (by omega) ?_
              refine Go.aload_n dMo_depart_68 rfl (Nat.ne_of_beq_eq_false rfl) ?_
              refine Go.getR dMo_depart_69 flMo_48 (Nat.le_of_ble_eq_true rfl) rfl K.r_need ?_
              refine Go.iload_n dMo_depart_72 rfl ?_
              refine Go.iald (jn := t95) dMo_depart_73 rfl (Nat.lt_of_lt_of_eq (by omega) (K.l_need).symm) (by omega) ?_
              refine Go.iadd dMo_depart_74 ?_
              refine Go.aload_n dMo_depart_75 rfl (Nat.ne_of_beq_eq_false rfl) ?_
              refine Go.getIv (v := (nw)) dMo_depart_76 flMo_13 (Nat.le_of_ble_eq_true rfl) rfl K.now ?_
              refine Go.icmp_le (tgt := 84) dMo_depart_79 (by decide) (fun q102 => ?_) (fun q102 => ?_)
              · obtain ⟨jd, hjd, ed⟩ := K.atd (t95) (by omega) q98
                refine Go.aload_n dMo_depart_84 rfl (Nat.ne_of_beq_eq_false rfl) ?_
                refine Go.getR dMo_depart_85 flMo_39 (Nat.le_of_ble_eq_true rfl) rfl K.r_state ?_
                refine Go.iload_n dMo_depart_88 rfl ?_
                refine Go.iconst (v := nI 2) dMo_depart_89 (by decide) ?_
                refine Go.iast (jn := t95) dMo_depart_90 rfl (Nat.lt_of_lt_of_eq (by omega) (K.l_state).symm) (by omega) ?_
                refine Go.hav (Kp := fun z => KR ((md, mt, wn), nw, (f_up stf (t95) (nI 2)), wtf) h0 z ∧ z.1 100 24 (t95) = nI jd) ⟨K.upState (x := t95) ⟨2, by decide, rfl⟩ (by omega) (fun z => absurd z (by decide)), (up_ne (by omega)).trans ed⟩ (fun hh50 K0 => ?_)
                obtain ⟨K, ed⟩ := K0
                refine Go.aload_n dMo_depart_91 rfl (Nat.ne_of_beq_eq_false rfl) ?_
                refine Go.getR dMo_depart_92 flMo_60 (Nat.le_of_ble_eq_true rfl) rfl K.r_gone ?_
                refine Go.iload_n dMo_depart_95 rfl ?_
                refine Go.aload_n dMo_depart_96 rfl (Nat.ne_of_beq_eq_false rfl) ?_
                refine Go.getIv (v := (nw)) dMo_depart_97 flMo_13 (Nat.le_of_ble_eq_true rfl) rfl K.now ?_
                refine Go.aload_n dMo_depart_100 rfl (Nat.ne_of_beq_eq_false rfl) ?_
                refine Go.getR dMo_depart_101 flMo_45 (Nat.le_of_ble_eq_true rfl) rfl K.r_arrival ?_
                refine Go.iload_n dMo_depart_104 rfl ?_
                refine Go.iald (jn := t95) dMo_depart_105 rfl (Nat.lt_of_lt_of_eq (by omega) (K.l_arrival).symm) (by omega) ?_
                refine Go.isub dMo_depart_106 ?_
                refine Go.iast (jn := t95) dMo_depart_107 rfl (Nat.lt_of_lt_of_eq (by omega) (K.l_gone).symm) (by omega) ?_
                refine Go.hav (Kp := fun z => KR ((md, mt, wn), nw, (f_up stf (t95) (nI 2)), wtf) h0 z ∧ z.1 100 24 (t95) = nI jd) ⟨K.up (by omega), (up_ne (by omega)).trans ed⟩ (fun hh51 K0 => ?_)
                obtain ⟨K, ed⟩ := K0
                refine Go.aload_n dMo_depart_108 rfl (Nat.ne_of_beq_eq_false rfl) ?_
                refine Go.getR dMo_depart_109 flMo_33 (Nat.le_of_ble_eq_true rfl) rfl K.r_left ?_
                refine Go.aload_n dMo_depart_112 rfl (Nat.ne_of_beq_eq_false rfl) ?_
                refine Go.getR dMo_depart_113 flMo_54 (Nat.le_of_ble_eq_true rfl) rfl K.r_doorOf ?_
                refine Go.iload_n dMo_depart_116 rfl ?_
                refine Go.ialdv (v := nI (jd)) (jn := t95) dMo_depart_117 rfl (Nat.lt_of_lt_of_eq (by omega) (K.l_doorOf).symm) (by omega) ed ?_
                refine Go.aload_n dMo_depart_118 rfl (Nat.ne_of_beq_eq_false rfl) ?_
                refine Go.getR dMo_depart_119 flMo_33 (Nat.le_of_ble_eq_true rfl) rfl K.r_left ?_
                refine Go.aload_n dMo_depart_122 rfl (Nat.ne_of_beq_eq_false rfl) ?_
                refine Go.getR dMo_depart_123 flMo_54 (Nat.le_of_ble_eq_true rfl) rfl K.r_doorOf ?_
                refine Go.iload_n dMo_depart_126 rfl ?_
                refine Go.ialdv (v := nI (jd)) (jn := t95) dMo_depart_127 rfl (Nat.lt_of_lt_of_eq (by omega) (K.l_doorOf).symm) (by omega) ed ?_
                refine Go.iald (jn := jd) dMo_depart_128 rfl (Nat.lt_of_lt_of_eq (by omega) (K.l_left).symm) (by omega) ?_
                refine Go.iconst (v := nI 1) dMo_depart_129 (by decide) ?_
                refine Go.iadd dMo_depart_130 ?_
                refine Go.iast (jn := jd) dMo_depart_131 rfl (Nat.lt_of_lt_of_eq (by omega) (K.l_left).symm) (by omega) ?_
                refine Go.hav (Kp := fun z => KR ((md, mt, wn), nw, (f_up stf (t95) (nI 2)), wtf) h0 z ∧ z.1 100 24 (t95) = nI jd) ⟨K.up (by omega), (up_ne (by omega)).trans ed⟩ (fun hh52 K0 => ?_)
                obtain ⟨K, ed⟩ := K0
                refine Go.iconst (v := nI 1) dMo_depart_132 (by decide) ?_
                refine Go.iret dMo_depart_133 rfl rfl (by decide) ?_
                exact ⟨_, rfl, _, K⟩
              · refine Go.iconst (v := nI 4) dMo_depart_82 (by decide) ?_
                refine Go.iret dMo_depart_83 rfl rfl (by decide) ?_
                exact ⟨_, rfl, _, K⟩
            · refine Go.iconst (v := nI 3) dMo_depart_60 (by decide) ?_
              refine Go.iret dMo_depart_61 rfl rfl (by decide) ?_
              exact ⟨_, rfl, _, K⟩
          · refine Go.iconst (v := nI 2) dMo_depart_49 (by decide) ?_
            refine Go.iret dMo_depart_50 rfl rfl (by decide) ?_
            exact ⟨_, rfl, _, K⟩
        · exact absurd q99 (by decide)
      · refine Go.iconst (v := nI 2) dMo_depart_23 (by decide) ?_
        refine Go.goto (tgt := 28) dMo_depart_24 (by decide) ?_
        refine Go.putI dMo_depart_28 fwMo_depart_7 (Nat.le_of_ble_eq_true rfl) rfl ⟨rfl, rfl⟩ ?_
        refine Go.hav (Kp := fun z => KR ((md, mt, wn), nw, stf, wtf) h0 z ∧ z.1 5 0 0 = nI (2) ∧ (∀ c i k, c ≠ 5 → z.1 c i k = h.1 c i k)) ⟨K.up (by omega), up_self, fun _ _ _ hc => up_ne (Or.inl hc)⟩ (fun hh53 K0 => ?_)
        obtain ⟨K, e0, ek⟩ := K0
        refine Go.aload_n dMo_depart_31 rfl (Nat.ne_of_beq_eq_false rfl) ?_
        refine Go.getIv (v := nI (2)) dMo_depart_32 flMo_7 (Nat.le_of_ble_eq_true rfl) rfl e0 ?_
        refine Go.if_eq (tgt := 40) dMo_depart_35 (by decide) (fun q105 => ?_) (fun q105 => ?_)
        · exact absurd q105 (by decide)
        · refine Go.iconst (v := nI 0) dMo_depart_38 (by decide) ?_
          refine Go.iret dMo_depart_39 rfl rfl (by decide) ?_
          exact ⟨_, rfl, _, K⟩
    · exact absurd q96 (by decide)
  · refine Go.if_eq (tgt := 13) dMo_depart_6 (by decide) (fun q106 => ?_) (fun q106 => ?_)
    · exact absurd q106 (by decide)
    · refine Go.iconst (v := nI 1) dMo_depart_9 (by decide) ?_
      refine Go.goto (tgt := 28) dMo_depart_10 (by decide) ?_
      refine Go.putI dMo_depart_28 fwMo_depart_7 (Nat.le_of_ble_eq_true rfl) rfl ⟨rfl, rfl⟩ ?_
      refine Go.hav (Kp := fun z => KR ((md, mt, wn), nw, stf, wtf) h0 z ∧ z.1 5 0 0 = nI (1) ∧ (∀ c i k, c ≠ 5 → z.1 c i k = h.1 c i k)) ⟨K.up (by omega), up_self, fun _ _ _ hc => up_ne (Or.inl hc)⟩ (fun hh54 K0 => ?_)
      obtain ⟨K, e0, ek⟩ := K0
      refine Go.aload_n dMo_depart_31 rfl (Nat.ne_of_beq_eq_false rfl) ?_
      refine Go.getIv (v := nI (1)) dMo_depart_32 flMo_7 (Nat.le_of_ble_eq_true rfl) rfl e0 ?_
      refine Go.if_eq (tgt := 40) dMo_depart_35 (by decide) (fun q107 => ?_) (fun q107 => ?_)
      · exact absurd q107 (by decide)
      · refine Go.iconst (v := nI 0) dMo_depart_38 (by decide) ?_
        refine Go.iret dMo_depart_39 rfl rfl (by decide) ?_
        exact ⟨_, rfl, _, K⟩
set_option maxHeartbeats 2000000 in
theorem g_Mo_door {sc : Nat × (Nat → Int32)} {d bc bs : Nat} {md mt wn : Nat} {nw : Int32} {stf wtf : Nat → Int32} {h0 : AH} {h : AH} (K : KR ((md, mt, wn), nw, stf, wtf) h0 h) (x y z : Int32) : Go sc true false (d + 1) bc bs mMo_door 0 [vO 5 (0), vI x, vI y, vI z] [] h (PV (fun _ h' => ∃ m2, KR ((m2, mt, wn), nw, stf, wtf) h0 h')) := by
  have b_md : md ≤ 4 := K.doors_le
  have b_mt : mt ≤ 12 := K.trucks_le
  have b_wn : wn ≤ 12 := K.waits_le
  refine Go.aload_n dMo_door_0 rfl (Nat.ne_of_beq_eq_false rfl) ?_
  refine Go.iload_n dMo_door_1 rfl ?_
  refine Go.iconst (v := nI 0) dMo_door_2 (by decide) ?_
  refine Go.sipush (v := nI 255) dMo_door_3 (by decide) ?_
  refine Go.cSr mMo_not [vI x, vI (nI (0)), vI (nI (255))] dMo_door_6 vwMo_131 rfl rfl (Nat.le_of_ble_eq_true rfl) rfl (Nat.le_of_ble_eq_true rfl) (g_Mo_not _ _ _) ?_
  rintro v108 (⟨rfl, hq108⟩ | ⟨rfl, hq108⟩)
  · refine Go.if_ne (tgt := 39) dMo_door_9 (by decide) (fun q109 => ?_) (fun q109 => ?_)
    · exact absurd q109 (by decide)
    · refine Go.iload_n dMo_door_12 rfl ?_
      refine Go.iconst (v := nI 0) dMo_door_13 (by decide) ?_
      refine Go.sipush (v := nI 2000) dMo_door_14 (by decide) ?_
      refine Go.cSr mMo_not [vI y, vI (nI (0)), vI (nI (2000))] dMo_door_17 vwMo_131 rfl rfl (Nat.le_of_ble_eq_true rfl) rfl (Nat.le_of_ble_eq_true rfl) (g_Mo_not _ _ _) ?_
      rintro v110 (⟨rfl, hq110⟩ | ⟨rfl, hq110⟩)
      · refine Go.if_ne (tgt := 39) dMo_door_20 (by decide) (fun q111 => ?_) (fun q111 => ?_)
        · exact absurd q111 (by decide)
        · refine Go.iload_n dMo_door_23 rfl ?_
          refine Go.iconst (v := nI 0) dMo_door_24 (by decide) ?_
          refine Go.sipush (v := nI 2000) dMo_door_25 (by decide) ?_
          refine Go.cSr mMo_not [vI z, vI (nI (0)), vI (nI (2000))] dMo_door_28 vwMo_131 rfl rfl (Nat.le_of_ble_eq_true rfl) rfl (Nat.le_of_ble_eq_true rfl) (g_Mo_not _ _ _) ?_
          rintro v112 (⟨rfl, hq112⟩ | ⟨rfl, hq112⟩)
          · refine Go.if_ne (tgt := 39) dMo_door_31 (by decide) (fun q113 => ?_) (fun q113 => ?_)
            · exact absurd q113 (by decide)
            · refine Go.iload_n dMo_door_34 rfl ?_
              refine Go.iload_n dMo_door_35 rfl ?_
              refine Go.icmp_lt (tgt := 43) dMo_door_36 (by decide) (fun q114 => ?_) (fun q114 => ?_)
              · refine Go.aload_n dMo_door_43 rfl (Nat.ne_of_beq_eq_false rfl) ?_
                refine Go.getIv (v := nI (md)) dMo_door_44 flMo_16 (Nat.le_of_ble_eq_true rfl) rfl K.doors ?_
                refine Go.iconst (v := nI 4) dMo_door_47 (by decide) ?_
                refine Go.icmp_ne (tgt := 55) dMo_door_48 (by decide) (fun q115 => ?_) (fun q115 => ?_)
                · replace q115 := tne q115 (by omega) (by omega)
                  refine Go.iconst (v := nI 0) dMo_door_55 (by decide) ?_
                  refine Go.putI dMo_door_56 fwMo_door_7 (Nat.le_of_ble_eq_true rfl) rfl ⟨rfl, rfl⟩ ?_
                  refine Go.hav (Kp := fun z => KR ((md, mt, wn), nw, stf, wtf) h0 z ∧ z.1 5 0 0 = nI (0) ∧ (∀ c i k, c ≠ 5 → z.1 c i k = h.1 c i k)) ⟨K.up (by omega), up_self, fun _ _ _ hc => up_ne (Or.inl hc)⟩ (fun hh55 K0 => ?_)
                  obtain ⟨K, e0, ek⟩ := K0
                  refine Go.aload_n dMo_door_59 rfl (Nat.ne_of_beq_eq_false rfl) ?_
                  refine Go.getIv (v := nI (0)) dMo_door_60 flMo_7 (Nat.le_of_ble_eq_true rfl) rfl e0 ?_
                  refine Go.if_eq (tgt := 68) dMo_door_63 (by decide) (fun q116 => ?_) (fun q116 => ?_)
                  · refine Go.aload_n dMo_door_68 rfl (Nat.ne_of_beq_eq_false rfl) ?_
                    refine Go.getR dMo_door_69 flMo_19 (Nat.le_of_ble_eq_true rfl) rfl K.r_kinds ?_
                    refine Go.aload_n dMo_door_72 rfl (Nat.ne_of_beq_eq_false rfl) ?_
                    refine Go.getIv (v := nI (md)) dMo_door_73 flMo_16 (Nat.le_of_ble_eq_true rfl) rfl K.doors ?_
                    refine Go.iload_n dMo_door_76 rfl ?_
                    refine Go.iast (jn := md) dMo_door_77 rfl (Nat.lt_of_lt_of_eq (by omega) (K.l_kinds).symm) (by omega) ?_
                    refine Go.hav (Kp := KR ((md, mt, wn), nw, stf, wtf) h0) (K.up (by omega)) (fun hh56 K => ?_)
                    refine Go.aload_n dMo_door_78 rfl (Nat.ne_of_beq_eq_false rfl) ?_
                    refine Go.getR dMo_door_79 flMo_23 (Nat.le_of_ble_eq_true rfl) rfl K.r_opens ?_
                    refine Go.aload_n dMo_door_82 rfl (Nat.ne_of_beq_eq_false rfl) ?_
                    refine Go.getIv (v := nI (md)) dMo_door_83 flMo_16 (Nat.le_of_ble_eq_true rfl) rfl K.doors ?_
                    refine Go.iload_n dMo_door_86 rfl ?_
                    refine Go.iast (jn := md) dMo_door_87 rfl (Nat.lt_of_lt_of_eq (by omega) (K.l_opens).symm) (by omega) ?_
                    refine Go.hav (Kp := KR ((md, mt, wn), nw, stf, wtf) h0) (K.up (by omega)) (fun hh57 K => ?_)
                    refine Go.aload_n dMo_door_88 rfl (Nat.ne_of_beq_eq_false rfl) ?_
                    refine Go.getR dMo_door_89 flMo_26 (Nat.le_of_ble_eq_true rfl) rfl K.r_closes ?_
                    refine Go.aload_n dMo_door_92 rfl (Nat.ne_of_beq_eq_false rfl) ?_
                    refine Go.getIv (v := nI (md)) dMo_door_93 flMo_16 (Nat.le_of_ble_eq_true rfl) rfl K.doors ?_
                    refine Go.iload_n dMo_door_96 rfl ?_
                    refine Go.iast (jn := md) dMo_door_97 rfl (Nat.lt_of_lt_of_eq (by omega) (K.l_closes).symm) (by omega) ?_
                    refine Go.hav (Kp := KR ((md, mt, wn), nw, stf, wtf) h0) (K.up (by omega)) (fun hh58 K => ?_)
                    refine Go.aload_n dMo_door_98 rfl (Nat.ne_of_beq_eq_false rfl) ?_
                    refine Go.dup trivial dMo_door_99 ?_
                    refine Go.getIv (v := nI (md)) dMo_door_100 flMo_16 (Nat.le_of_ble_eq_true rfl) rfl K.doors ?_
                    refine Go.iconst (v := nI 1) dMo_door_103 (by decide) ?_
                    refine Go.iadd dMo_door_104 ?_
                    refine Go.cvt (v' := nI (md + 1)) (nI_add _ _) ?_
                    refine Go.putI dMo_door_105 fwMo_door_16 (Nat.le_of_ble_eq_true rfl) rfl ⟨rfl, rfl⟩ ?_
                    refine Go.hav (Kp := KR (((md + 1), mt, wn), nw, stf, wtf) h0) (K.upDoors rfl (show md < 4 from by omega)) (fun hh59 K => ?_)
                    refine Go.aload_n dMo_door_108 rfl (Nat.ne_of_beq_eq_false rfl) ?_
                    refine Go.getIv (v := nI ((md + 1))) dMo_door_109 flMo_16 (Nat.le_of_ble_eq_true rfl) rfl K.doors ?_
                    refine Go.iconst (v := nI 1) dMo_door_112 (by decide) ?_
                    refine Go.isub dMo_door_113 ?_
                    refine Go.cvt (v' := nI ((md + 1) - 1)) (pk_sub (by omega)) ?_
                    refine Go.iret dMo_door_114 rfl rfl (by decide) ?_
                    exact ⟨_, rfl, _, K⟩
                  · exact absurd q116 (by decide)
                · replace q115 := teq q115 (by omega) (by omega)
                  refine Go.iconst (v := nI 2) dMo_door_51 (by decide) ?_
                  refine Go.goto (tgt := 56) dMo_door_52 (by decide) ?_
                  refine Go.putI dMo_door_56 fwMo_door_7 (Nat.le_of_ble_eq_true rfl) rfl ⟨rfl, rfl⟩ ?_
                  refine Go.hav (Kp := fun z => KR ((md, mt, wn), nw, stf, wtf) h0 z ∧ z.1 5 0 0 = nI (2) ∧ (∀ c i k, c ≠ 5 → z.1 c i k = h.1 c i k)) ⟨K.up (by omega), up_self, fun _ _ _ hc => up_ne (Or.inl hc)⟩ (fun hh60 K0 => ?_)
                  obtain ⟨K, e0, ek⟩ := K0
                  refine Go.aload_n dMo_door_59 rfl (Nat.ne_of_beq_eq_false rfl) ?_
                  refine Go.getIv (v := nI (2)) dMo_door_60 flMo_7 (Nat.le_of_ble_eq_true rfl) rfl e0 ?_
                  refine Go.if_eq (tgt := 68) dMo_door_63 (by decide) (fun q117 => ?_) (fun q117 => ?_)
                  · exact absurd q117 (by decide)
                  · refine Go.iconst (v := nI 0) dMo_door_66 (by decide) ?_
                    refine Go.iret dMo_door_67 rfl rfl (by decide) ?_
                    exact ⟨_, rfl, _, K⟩
              · refine Go.iconst (v := nI 1) dMo_door_39 (by decide) ?_
                refine Go.goto (tgt := 56) dMo_door_40 (by decide) ?_
                refine Go.putI dMo_door_56 fwMo_door_7 (Nat.le_of_ble_eq_true rfl) rfl ⟨rfl, rfl⟩ ?_
                refine Go.hav (Kp := fun z => KR ((md, mt, wn), nw, stf, wtf) h0 z ∧ z.1 5 0 0 = nI (1) ∧ (∀ c i k, c ≠ 5 → z.1 c i k = h.1 c i k)) ⟨K.up (by omega), up_self, fun _ _ _ hc => up_ne (Or.inl hc)⟩ (fun hh61 K0 => ?_)
                obtain ⟨K, e0, ek⟩ := K0
                refine Go.aload_n dMo_door_59 rfl (Nat.ne_of_beq_eq_false rfl) ?_
                refine Go.getIv (v := nI (1)) dMo_door_60 flMo_7 (Nat.le_of_ble_eq_true rfl) rfl e0 ?_
                refine Go.if_eq (tgt := 68) dMo_door_63 (by decide) (fun q118 => ?_) (fun q118 => ?_)
                · exact absurd q118 (by decide)
                · refine Go.iconst (v := nI 0) dMo_door_66 (by decide) ?_
                  refine Go.iret dMo_door_67 rfl rfl (by decide) ?_
                  exact ⟨_, rfl, _, K⟩
          · refine Go.if_ne (tgt := 39) dMo_door_31 (by decide) (fun q119 => ?_) (fun q119 => ?_)
            · refine Go.iconst (v := nI 1) dMo_door_39 (by decide) ?_
              refine Go.goto (tgt := 56) dMo_door_40 (by decide) ?_
              refine Go.putI dMo_door_56 fwMo_door_7 (Nat.le_of_ble_eq_true rfl) rfl ⟨rfl, rfl⟩ ?_
              refine Go.hav (Kp := fun z => KR ((md, mt, wn), nw, stf, wtf) h0 z ∧ z.1 5 0 0 = nI (1) ∧ (∀ c i k, c ≠ 5 → z.1 c i k = h.1 c i k)) ⟨K.up (by omega), up_self, fun _ _ _ hc => up_ne (Or.inl hc)⟩ (fun hh62 K0 => ?_)
              obtain ⟨K, e0, ek⟩ := K0
              refine Go.aload_n dMo_door_59 rfl (Nat.ne_of_beq_eq_false rfl) ?_
              refine Go.getIv (v := nI (1)) dMo_door_60 flMo_7 (Nat.le_of_ble_eq_true rfl) rfl e0 ?_
              refine Go.if_eq (tgt := 68) dMo_door_63 (by decide) (fun q120 => ?_) (fun q120 => ?_)
              · exact absurd q120 (by decide)
              · refine Go.iconst (v := nI 0) dMo_door_66 (by decide) ?_
                refine Go.iret dMo_door_67 rfl rfl (by decide) ?_
                exact ⟨_, rfl, _, K⟩
            · exact absurd q119 (by decide)
      · refine Go.if_ne (tgt := 39) dMo_door_20 (by decide) (fun q121 => ?_) (fun q121 => ?_)
        · refine Go.iconst (v := nI 1) dMo_door_39 (by decide) ?_
          refine Go.goto (tgt := 56) dMo_door_40 (by decide) ?_
          refine Go.putI dMo_door_56 fwMo_door_7 (Nat.le_of_ble_eq_true rfl) rfl ⟨rfl, rfl⟩ ?_
          refine Go.hav (Kp := fun z => KR ((md, mt, wn), nw, stf, wtf) h0 z ∧ z.1 5 0 0 = nI (1) ∧ (∀ c i k, c ≠ 5 → z.1 c i k = h.1 c i k)) ⟨K.up (by omega), up_self, fun _ _ _ hc => up_ne (Or.inl hc)⟩ (fun hh63 K0 => ?_)
          obtain ⟨K, e0, ek⟩ := K0
          refine Go.aload_n dMo_door_59 rfl (Nat.ne_of_beq_eq_false rfl) ?_
          refine Go.getIv (v := nI (1)) dMo_door_60 flMo_7 (Nat.le_of_ble_eq_true rfl) rfl e0 ?_
          refine Go.if_eq (tgt := 68) dMo_door_63 (by decide) (fun q122 => ?_) (fun q122 => ?_)
          · exact absurd q122 (by decide)
          · refine Go.iconst (v := nI 0) dMo_door_66 (by decide) ?_
            refine Go.iret dMo_door_67 rfl rfl (by decide) ?_
            exact ⟨_, rfl, _, K⟩
        · exact absurd q121 (by decide)
  · refine Go.if_ne (tgt := 39) dMo_door_9 (by decide) (fun q123 => ?_) (fun q123 => ?_)
    · refine Go.iconst (v := nI 1) dMo_door_39 (by decide) ?_
      refine Go.goto (tgt := 56) dMo_door_40 (by decide) ?_
      refine Go.putI dMo_door_56 fwMo_door_7 (Nat.le_of_ble_eq_true rfl) rfl ⟨rfl, rfl⟩ ?_
      refine Go.hav (Kp := fun z => KR ((md, mt, wn), nw, stf, wtf) h0 z ∧ z.1 5 0 0 = nI (1) ∧ (∀ c i k, c ≠ 5 → z.1 c i k = h.1 c i k)) ⟨K.up (by omega), up_self, fun _ _ _ hc => up_ne (Or.inl hc)⟩ (fun hh64 K0 => ?_)
      obtain ⟨K, e0, ek⟩ := K0
      refine Go.aload_n dMo_door_59 rfl (Nat.ne_of_beq_eq_false rfl) ?_
      refine Go.getIv (v := nI (1)) dMo_door_60 flMo_7 (Nat.le_of_ble_eq_true rfl) rfl e0 ?_
      refine Go.if_eq (tgt := 68) dMo_door_63 (by decide) (fun q124 => ?_) (fun q124 => ?_)
      · exact absurd q124 (by decide)
      · refine Go.iconst (v := nI 0) dMo_door_66 (by decide) ?_
        refine Go.iret dMo_door_67 rfl rfl (by decide) ?_
        exact ⟨_, rfl, _, K⟩
    · exact absurd q123 (by decide)
set_option maxHeartbeats 2000000 in
theorem g_Mo_truck {sc : Nat × (Nat → Int32)} {d bc bs : Nat} {md mt wn : Nat} {nw : Int32} {stf wtf : Nat → Int32} {h0 : AH} {h : AH} (K : KR ((md, mt, wn), nw, stf, wtf) h0 h) (a b c e : Int32) : Go sc true false (d + 1) bc bs mMo_truck 0 [vO 5 (0), vI a, vI b, vI c, vI e] [] h (PV (fun v h' => (ok_truck a b c e ∧ mt < 12 ∧ v = nI mt ∧ h'.1 5 0 0 = 0 ∧ KR ((md, (mt + 1), wn), nw, stf, wtf) h0 h') ∨ (ok_truck a b c e ∧ mt = 12 ∧ h'.1 5 0 0 = 2 ∧ KR ((md, mt, wn), nw, stf, wtf) h0 h') ∨ (¬ ok_truck a b c e ∧ h'.1 5 0 0 = 1 ∧ KR ((md, mt, wn), nw, stf, wtf) h0 h'))) := by
  have b_md : md ≤ 4 := K.doors_le
  have b_mt : mt ≤ 12 := K.trucks_le
  have b_wn : wn ≤ 12 := K.waits_le
  refine Go.aload_n dMo_truck_0 rfl (Nat.ne_of_beq_eq_false rfl) ?_
  refine Go.iload_n dMo_truck_1 rfl ?_
  refine Go.iconst (v := nI 0) dMo_truck_2 (by decide) ?_
  refine Go.bipush (v := nI 7) dMo_truck_3 (by decide) ?_
  refine Go.cSr mMo_not [vI a, vI (nI (0)), vI (nI (7))] dMo_truck_5 vwMo_131 rfl rfl (Nat.le_of_ble_eq_true rfl) rfl (Nat.le_of_ble_eq_true rfl) (g_Mo_not _ _ _) ?_
  rintro v125 (⟨rfl, hq125⟩ | ⟨rfl, hq125⟩)
  · refine Go.if_ne (tgt := 44) dMo_truck_8 (by decide) (fun q126 => ?_) (fun q126 => ?_)
    · exact absurd q126 (by decide)
    · refine Go.iload_n dMo_truck_11 rfl ?_
      refine Go.iconst (v := nI 0) dMo_truck_12 (by decide) ?_
      refine Go.sipush (v := nI 2000) dMo_truck_13 (by decide) ?_
      refine Go.cSr mMo_not [vI b, vI (nI (0)), vI (nI (2000))] dMo_truck_16 vwMo_131 rfl rfl (Nat.le_of_ble_eq_true rfl) rfl (Nat.le_of_ble_eq_true rfl) (g_Mo_not _ _ _) ?_
      rintro v127 (⟨rfl, hq127⟩ | ⟨rfl, hq127⟩)
      · refine Go.if_ne (tgt := 44) dMo_truck_19 (by decide) (fun q128 => ?_) (fun q128 => ?_)
        · exact absurd q128 (by decide)
        · refine Go.iload_n dMo_truck_22 rfl ?_
          refine Go.iconst (v := nI 1) dMo_truck_23 (by decide) ?_
          refine Go.sipush (v := nI 300) dMo_truck_24 (by decide) ?_
          refine Go.cSr mMo_not [vI c, vI (nI (1)), vI (nI (300))] dMo_truck_27 vwMo_131 rfl rfl (Nat.le_of_ble_eq_true rfl) rfl (Nat.le_of_ble_eq_true rfl) (g_Mo_not _ _ _) ?_
          rintro v129 (⟨rfl, hq129⟩ | ⟨rfl, hq129⟩)
          · refine Go.if_ne (tgt := 44) dMo_truck_30 (by decide) (fun q130 => ?_) (fun q130 => ?_)
            · exact absurd q130 (by decide)
            · refine Go.iload dMo_truck_33 rfl ?_
              refine Go.iconst (v := nI 1) dMo_truck_35 (by decide) ?_
              refine Go.bipush (v := nI 9) dMo_truck_36 (by decide) ?_
              refine Go.cSr mMo_not [vI e, vI (nI (1)), vI (nI (9))] dMo_truck_38 vwMo_131 rfl rfl (Nat.le_of_ble_eq_true rfl) rfl (Nat.le_of_ble_eq_true rfl) (g_Mo_not _ _ _) ?_
              rintro v131 (⟨rfl, hq131⟩ | ⟨rfl, hq131⟩)
              · refine Go.if_eq (tgt := 48) dMo_truck_41 (by decide) (fun q132 => ?_) (fun q132 => ?_)
                · refine Go.aload_n dMo_truck_48 rfl (Nat.ne_of_beq_eq_false rfl) ?_
                  refine Go.getIv (v := nI (mt)) dMo_truck_49 flMo_36 (Nat.le_of_ble_eq_true rfl) rfl K.trucks ?_
                  refine Go.bipush (v := nI 12) dMo_truck_52 (by decide) ?_
                  refine Go.icmp_ne (tgt := 61) dMo_truck_54 (by decide) (fun q133 => ?_) (fun q133 => ?_)
                  · replace q133 := tne q133 (by omega) (by omega)
                    refine Go.iconst (v := nI 0) dMo_truck_61 (by decide) ?_
                    refine Go.putI dMo_truck_62 fwMo_truck_7 (Nat.le_of_ble_eq_true rfl) rfl ⟨rfl, rfl⟩ ?_
                    refine Go.hav (Kp := fun z => KR ((md, mt, wn), nw, stf, wtf) h0 z ∧ z.1 5 0 0 = nI (0) ∧ (∀ c i k, c ≠ 5 → z.1 c i k = h.1 c i k)) ⟨K.up (by omega), up_self, fun _ _ _ hc => up_ne (Or.inl hc)⟩ (fun hh65 K0 => ?_)
                    obtain ⟨K, e0, ek⟩ := K0
                    refine Go.aload_n dMo_truck_65 rfl (Nat.ne_of_beq_eq_false rfl) ?_
                    refine Go.getIv (v := nI (0)) dMo_truck_66 flMo_7 (Nat.le_of_ble_eq_true rfl) rfl e0 ?_
                    refine Go.if_eq (tgt := 74) dMo_truck_69 (by decide) (fun q134 => ?_) (fun q134 => ?_)
                    · refine Go.aload_n dMo_truck_74 rfl (Nat.ne_of_beq_eq_false rfl) ?_
                      refine Go.getR dMo_truck_75 flMo_42 (Nat.le_of_ble_eq_true rfl) rfl K.r_kind ?_
                      refine Go.aload_n dMo_truck_78 rfl (Nat.ne_of_beq_eq_false rfl) ?_
                      refine Go.getIv (v := nI (mt)) dMo_truck_79 flMo_36 (Nat.le_of_ble_eq_true rfl) rfl K.trucks ?_
                      refine Go.iload_n dMo_truck_82 rfl ?_
                      refine Go.iast (jn := mt) dMo_truck_83 rfl (Nat.lt_of_lt_of_eq (by omega) (K.l_kind).symm) (by omega) ?_
                      refine Go.hav (Kp := fun z => KR ((md, mt, wn), nw, stf, wtf) h0 z ∧ z.1 5 0 0 = nI 0) ⟨K.up (by omega), (up_ne (by omega)).trans e0⟩ (fun hh66 K0 => ?_)
                      obtain ⟨K, e0⟩ := K0
                      refine Go.aload_n dMo_truck_84 rfl (Nat.ne_of_beq_eq_false rfl) ?_
                      refine Go.getR dMo_truck_85 flMo_45 (Nat.le_of_ble_eq_true rfl) rfl K.r_arrival ?_
                      refine Go.aload_n dMo_truck_88 rfl (Nat.ne_of_beq_eq_false rfl) ?_
                      refine Go.getIv (v := nI (mt)) dMo_truck_89 flMo_36 (Nat.le_of_ble_eq_true rfl) rfl K.trucks ?_
                      refine Go.iload_n dMo_truck_92 rfl ?_
                      refine Go.iast (jn := mt) dMo_truck_93 rfl (Nat.lt_of_lt_of_eq (by omega) (K.l_arrival).symm) (by omega) ?_
                      refine Go.hav (Kp := fun z => KR ((md, mt, wn), nw, stf, wtf) h0 z ∧ z.1 5 0 0 = nI 0) ⟨K.up (by omega), (up_ne (by omega)).trans e0⟩ (fun hh67 K0 => ?_)
                      obtain ⟨K, e0⟩ := K0
                      refine Go.aload_n dMo_truck_94 rfl (Nat.ne_of_beq_eq_false rfl) ?_
                      refine Go.getR dMo_truck_95 flMo_48 (Nat.le_of_ble_eq_true rfl) rfl K.r_need ?_
                      refine Go.aload_n dMo_truck_98 rfl (Nat.ne_of_beq_eq_false rfl) ?_
                      refine Go.getIv (v := nI (mt)) dMo_truck_99 flMo_36 (Nat.le_of_ble_eq_true rfl) rfl K.trucks ?_
                      refine Go.iload_n dMo_truck_102 rfl ?_
                      refine Go.iast (jn := mt) dMo_truck_103 rfl (Nat.lt_of_lt_of_eq (by omega) (K.l_need).symm) (by omega) ?_
                      refine Go.hav (Kp := fun z => KR ((md, mt, wn), nw, stf, wtf) h0 z ∧ z.1 5 0 0 = nI 0) ⟨K.up (by omega), (up_ne (by omega)).trans e0⟩ (fun hh68 K0 => ?_)
                      obtain ⟨K, e0⟩ := K0
                      refine Go.aload_n dMo_truck_104 rfl (Nat.ne_of_beq_eq_false rfl) ?_
                      refine Go.getR dMo_truck_105 flMo_51 (Nat.le_of_ble_eq_true rfl) rfl K.r_ranks ?_
                      refine Go.aload_n dMo_truck_108 rfl (Nat.ne_of_beq_eq_false rfl) ?_
                      refine Go.getIv (v := nI (mt)) dMo_truck_109 flMo_36 (Nat.le_of_ble_eq_true rfl) rfl K.trucks ?_
                      refine Go.iload dMo_truck_112 rfl ?_
                      refine Go.iast (jn := mt) dMo_truck_114 rfl (Nat.lt_of_lt_of_eq (by omega) (K.l_ranks).symm) (by omega) ?_
                      refine Go.hav (Kp := fun z => KR ((md, mt, wn), nw, stf, wtf) h0 z ∧ z.1 5 0 0 = nI 0) ⟨K.up (by omega), (up_ne (by omega)).trans e0⟩ (fun hh69 K0 => ?_)
                      obtain ⟨K, e0⟩ := K0
                      refine Go.aload_n dMo_truck_115 rfl (Nat.ne_of_beq_eq_false rfl) ?_
                      refine Go.getR dMo_truck_116 flMo_63 (Nat.le_of_ble_eq_true rfl) rfl K.r_seals ?_
                      refine Go.aload_n dMo_truck_119 rfl (Nat.ne_of_beq_eq_false rfl) ?_
                      refine Go.getIv (v := nI (mt)) dMo_truck_120 flMo_36 (Nat.le_of_ble_eq_true rfl) rfl K.trucks ?_
                      refine Go.iconst (v := -1) dMo_truck_123 (by decide) ?_
                      refine Go.iast (jn := mt) dMo_truck_124 rfl (Nat.lt_of_lt_of_eq (by omega) (K.l_seals).symm) (by omega) ?_
                      refine Go.hav (Kp := fun z => KR ((md, mt, wn), nw, stf, wtf) h0 z ∧ z.1 5 0 0 = nI 0) ⟨K.up (by omega), (up_ne (by omega)).trans e0⟩ (fun hh70 K0 => ?_)
                      obtain ⟨K, e0⟩ := K0
                      refine Go.aload_n dMo_truck_125 rfl (Nat.ne_of_beq_eq_false rfl) ?_
                      refine Go.getR dMo_truck_126 flMo_60 (Nat.le_of_ble_eq_true rfl) rfl K.r_gone ?_
                      refine Go.aload_n dMo_truck_129 rfl (Nat.ne_of_beq_eq_false rfl) ?_
                      refine Go.getIv (v := nI (mt)) dMo_truck_130 flMo_36 (Nat.le_of_ble_eq_true rfl) rfl K.trucks ?_
                      refine Go.iconst (v := -1) dMo_truck_133 (by decide) ?_
                      refine Go.iast (jn := mt) dMo_truck_134 rfl (Nat.lt_of_lt_of_eq (by omega) (K.l_gone).symm) (by omega) ?_
                      refine Go.hav (Kp := fun z => KR ((md, mt, wn), nw, stf, wtf) h0 z ∧ z.1 5 0 0 = nI 0) ⟨K.up (by omega), (up_ne (by omega)).trans e0⟩ (fun hh71 K0 => ?_)
                      obtain ⟨K, e0⟩ := K0
                      refine Go.aload_n dMo_truck_135 rfl (Nat.ne_of_beq_eq_false rfl) ?_
                      refine Go.aload_n dMo_truck_136 rfl (Nat.ne_of_beq_eq_false rfl) ?_
                      refine Go.getIv (v := nI (mt)) dMo_truck_137 flMo_36 (Nat.le_of_ble_eq_true rfl) rfl K.trucks ?_
                      refine Go.cVf mMo_nothing [vI (nI (mt))] dMo_truck_140 vwMo_135 (Nat.le_of_ble_eq_true rfl) rfl rfl (Nat.le_of_ble_eq_true rfl) rfl (Nat.le_of_ble_eq_true rfl) (g_Mo_nothing K (mt) (by omega)) ?_
                      refine Go.hav (Kp := fun z => KR ((md, mt, wn), nw, stf, wtf) h0 z ∧ z.1 5 0 0 = nI 0) ⟨(K.upDoorOf (x := mt) (Or.inl rfl) (fun z => absurd ((K.fresh mt (by omega) (Nat.le_refl _)).symm.trans z) (by decide))).up (by omega), (up_ne2 (by omega) (by omega)).trans e0⟩ (fun hh72 K0 => ?_)
                      obtain ⟨K, e0⟩ := K0
                      refine Go.aload_n dMo_truck_143 rfl (Nat.ne_of_beq_eq_false rfl) ?_
                      refine Go.dup trivial dMo_truck_144 ?_
                      refine Go.getIv (v := nI (mt)) dMo_truck_145 flMo_36 (Nat.le_of_ble_eq_true rfl) rfl K.trucks ?_
                      refine Go.iconst (v := nI 1) dMo_truck_148 (by decide) ?_
                      refine Go.iadd dMo_truck_149 ?_
                      refine Go.cvt (v' := nI (mt + 1)) (nI_add _ _) ?_
                      refine Go.putI dMo_truck_150 fwMo_truck_36 (Nat.le_of_ble_eq_true rfl) rfl ⟨rfl, rfl⟩ ?_
                      refine Go.hav (Kp := fun z => KR ((md, (mt + 1), wn), nw, stf, wtf) h0 z ∧ z.1 5 0 0 = nI 0) ⟨K.upTrucks rfl (show mt < 12 from by omega), (up_ne (by omega)).trans e0⟩ (fun hh73 K0 => ?_)
                      obtain ⟨K, e0⟩ := K0
                      refine Go.aload_n dMo_truck_153 rfl (Nat.ne_of_beq_eq_false rfl) ?_
                      refine Go.getIv (v := nI ((mt + 1))) dMo_truck_154 flMo_36 (Nat.le_of_ble_eq_true rfl) rfl K.trucks ?_
                      refine Go.iconst (v := nI 1) dMo_truck_157 (by decide) ?_
                      refine Go.isub dMo_truck_158 ?_
                      refine Go.cvt (v' := nI ((mt + 1) - 1)) (pk_sub (by omega)) ?_
                      refine Go.iret dMo_truck_159 rfl rfl (by decide) ?_
                      exact ⟨_, rfl, Or.inl ⟨⟨by assumption, by assumption, by assumption, by assumption⟩, by omega, rfl, e0, K⟩⟩
                    · exact absurd q134 (by decide)
                  · replace q133 := teq q133 (by omega) (by omega)
                    refine Go.iconst (v := nI 2) dMo_truck_57 (by decide) ?_
                    refine Go.goto (tgt := 62) dMo_truck_58 (by decide) ?_
                    refine Go.putI dMo_truck_62 fwMo_truck_7 (Nat.le_of_ble_eq_true rfl) rfl ⟨rfl, rfl⟩ ?_
                    refine Go.hav (Kp := fun z => KR ((md, mt, wn), nw, stf, wtf) h0 z ∧ z.1 5 0 0 = nI (2) ∧ (∀ c i k, c ≠ 5 → z.1 c i k = h.1 c i k)) ⟨K.up (by omega), up_self, fun _ _ _ hc => up_ne (Or.inl hc)⟩ (fun hh74 K0 => ?_)
                    obtain ⟨K, e0, ek⟩ := K0
                    refine Go.aload_n dMo_truck_65 rfl (Nat.ne_of_beq_eq_false rfl) ?_
                    refine Go.getIv (v := nI (2)) dMo_truck_66 flMo_7 (Nat.le_of_ble_eq_true rfl) rfl e0 ?_
                    refine Go.if_eq (tgt := 74) dMo_truck_69 (by decide) (fun q135 => ?_) (fun q135 => ?_)
                    · exact absurd q135 (by decide)
                    · refine Go.iconst (v := nI 0) dMo_truck_72 (by decide) ?_
                      refine Go.iret dMo_truck_73 rfl rfl (by decide) ?_
                      exact ⟨_, rfl, Or.inr (Or.inl ⟨⟨by assumption, by assumption, by assumption, by assumption⟩, by omega, e0, K⟩)⟩
                · exact absurd q132 (by decide)
              · refine Go.if_eq (tgt := 48) dMo_truck_41 (by decide) (fun q136 => ?_) (fun q136 => ?_)
                · exact absurd q136 (by decide)
                · refine Go.iconst (v := nI 1) dMo_truck_44 (by decide) ?_
                  refine Go.goto (tgt := 62) dMo_truck_45 (by decide) ?_
                  refine Go.putI dMo_truck_62 fwMo_truck_7 (Nat.le_of_ble_eq_true rfl) rfl ⟨rfl, rfl⟩ ?_
                  refine Go.hav (Kp := fun z => KR ((md, mt, wn), nw, stf, wtf) h0 z ∧ z.1 5 0 0 = nI (1) ∧ (∀ c i k, c ≠ 5 → z.1 c i k = h.1 c i k)) ⟨K.up (by omega), up_self, fun _ _ _ hc => up_ne (Or.inl hc)⟩ (fun hh75 K0 => ?_)
                  obtain ⟨K, e0, ek⟩ := K0
                  refine Go.aload_n dMo_truck_65 rfl (Nat.ne_of_beq_eq_false rfl) ?_
                  refine Go.getIv (v := nI (1)) dMo_truck_66 flMo_7 (Nat.le_of_ble_eq_true rfl) rfl e0 ?_
                  refine Go.if_eq (tgt := 74) dMo_truck_69 (by decide) (fun q137 => ?_) (fun q137 => ?_)
                  · exact absurd q137 (by decide)
                  · refine Go.iconst (v := nI 0) dMo_truck_72 (by decide) ?_
                    refine Go.iret dMo_truck_73 rfl rfl (by decide) ?_
                    exact ⟨_, rfl, Or.inr (Or.inr ⟨by rintro ⟨z1, z2, z3, z4⟩; contradiction, e0, K⟩)⟩
          · refine Go.if_ne (tgt := 44) dMo_truck_30 (by decide) (fun q138 => ?_) (fun q138 => ?_)
            · refine Go.iconst (v := nI 1) dMo_truck_44 (by decide) ?_
              refine Go.goto (tgt := 62) dMo_truck_45 (by decide) ?_
              refine Go.putI dMo_truck_62 fwMo_truck_7 (Nat.le_of_ble_eq_true rfl) rfl ⟨rfl, rfl⟩ ?_
              refine Go.hav (Kp := fun z => KR ((md, mt, wn), nw, stf, wtf) h0 z ∧ z.1 5 0 0 = nI (1) ∧ (∀ c i k, c ≠ 5 → z.1 c i k = h.1 c i k)) ⟨K.up (by omega), up_self, fun _ _ _ hc => up_ne (Or.inl hc)⟩ (fun hh76 K0 => ?_)
              obtain ⟨K, e0, ek⟩ := K0
              refine Go.aload_n dMo_truck_65 rfl (Nat.ne_of_beq_eq_false rfl) ?_
              refine Go.getIv (v := nI (1)) dMo_truck_66 flMo_7 (Nat.le_of_ble_eq_true rfl) rfl e0 ?_
              refine Go.if_eq (tgt := 74) dMo_truck_69 (by decide) (fun q139 => ?_) (fun q139 => ?_)
              · exact absurd q139 (by decide)
              · refine Go.iconst (v := nI 0) dMo_truck_72 (by decide) ?_
                refine Go.iret dMo_truck_73 rfl rfl (by decide) ?_
                exact ⟨_, rfl, Or.inr (Or.inr ⟨by rintro ⟨z1, z2, z3, z4⟩; contradiction, e0, K⟩)⟩
            · exact absurd q138 (by decide)
      · refine Go.if_ne (tgt := 44) dMo_truck_19 (by decide) (fun q140 => ?_) (fun q140 => ?_)
        · refine Go.iconst (v := nI 1) dMo_truck_44 (by decide) ?_
          refine Go.goto (tgt := 62) dMo_truck_45 (by decide) ?_
          refine Go.putI dMo_truck_62 fwMo_truck_7 (Nat.le_of_ble_eq_true rfl) rfl ⟨rfl, rfl⟩ ?_
          refine Go.hav (Kp := fun z => KR ((md, mt, wn), nw, stf, wtf) h0 z ∧ z.1 5 0 0 = nI (1) ∧ (∀ c i k, c ≠ 5 → z.1 c i k = h.1 c i k)) ⟨K.up (by omega), up_self, fun _ _ _ hc => up_ne (Or.inl hc)⟩ (fun hh77 K0 => ?_)
          obtain ⟨K, e0, ek⟩ := K0
          refine Go.aload_n dMo_truck_65 rfl (Nat.ne_of_beq_eq_false rfl) ?_
          refine Go.getIv (v := nI (1)) dMo_truck_66 flMo_7 (Nat.le_of_ble_eq_true rfl) rfl e0 ?_
          refine Go.if_eq (tgt := 74) dMo_truck_69 (by decide) (fun q141 => ?_) (fun q141 => ?_)
          · exact absurd q141 (by decide)
          · refine Go.iconst (v := nI 0) dMo_truck_72 (by decide) ?_
            refine Go.iret dMo_truck_73 rfl rfl (by decide) ?_
            exact ⟨_, rfl, Or.inr (Or.inr ⟨by rintro ⟨z1, z2, z3, z4⟩; contradiction, e0, K⟩)⟩
        · exact absurd q140 (by decide)
  · refine Go.if_ne (tgt := 44) dMo_truck_8 (by decide) (fun q142 => ?_) (fun q142 => ?_)
    · refine Go.iconst (v := nI 1) dMo_truck_44 (by decide) ?_
      refine Go.goto (tgt := 62) dMo_truck_45 (by decide) ?_
      refine Go.putI dMo_truck_62 fwMo_truck_7 (Nat.le_of_ble_eq_true rfl) rfl ⟨rfl, rfl⟩ ?_
      refine Go.hav (Kp := fun z => KR ((md, mt, wn), nw, stf, wtf) h0 z ∧ z.1 5 0 0 = nI (1) ∧ (∀ c i k, c ≠ 5 → z.1 c i k = h.1 c i k)) ⟨K.up (by omega), up_self, fun _ _ _ hc => up_ne (Or.inl hc)⟩ (fun hh78 K0 => ?_)
      obtain ⟨K, e0, ek⟩ := K0
      refine Go.aload_n dMo_truck_65 rfl (Nat.ne_of_beq_eq_false rfl) ?_
      refine Go.getIv (v := nI (1)) dMo_truck_66 flMo_7 (Nat.le_of_ble_eq_true rfl) rfl e0 ?_
      refine Go.if_eq (tgt := 74) dMo_truck_69 (by decide) (fun q143 => ?_) (fun q143 => ?_)
      · exact absurd q143 (by decide)
      · refine Go.iconst (v := nI 0) dMo_truck_72 (by decide) ?_
        refine Go.iret dMo_truck_73 rfl rfl (by decide) ?_
        exact ⟨_, rfl, Or.inr (Or.inr ⟨by rintro ⟨z1, z2, z3, z4⟩; contradiction, e0, K⟩)⟩
    · exact absurd q142 (by decide)
set_option maxHeartbeats 2000000 in
theorem lp_Mo_out_52 {sc : Nat × (Nat → Int32)} {d bc bs : Nat} {md mt wn : Nat} {nw : Int32} {stf wtf : Nat → Int32} {h0 : AH} {Q : GO → AH → Prop} (q : Nat) (y : Int32) (kont0 : ∀ (n : Int32) (z : AV) (h1 : AH), (KR ((md, mt, wn), nw, stf, wtf) h0 h1) → Go sc false false (d + 1) bc bs mMo_out 101 [vO 5 (0), vI (nI (q)), vI y, vI n, z] [] h1 Q) : ∀ (k0 : Nat) (t : Nat) (n : Int32) (h : AH), KR ((md, mt, wn), nw, stf, wtf) h0 h → (t ≤ mt) → mt - t ≤ k0 → Go sc false false (d + 1) bc bs mMo_out 52 [vO 5 (0), vI (nI (q)), vI y, vI n, vI (nI (t))] [] h Q := by
  intro k0
  induction k0 using Nat.strongRecOn with
  | _ k0 ih =>
    intro t n h K ht hk0
    have b_md : md ≤ 4 := K.doors_le
    have b_mt : mt ≤ 12 := K.trucks_le
    have b_wn : wn ≤ 12 := K.waits_le
    refine Go.iload dMo_out_52 rfl ?_
    refine Go.aload_n dMo_out_54 rfl (Nat.ne_of_beq_eq_false rfl) ?_
    refine Go.getIv (v := nI (mt)) dMo_out_55 flMo_36 (Nat.le_of_ble_eq_true rfl) rfl K.trucks ?_
    refine Go.icmp_ge (tgt := 101) dMo_out_58 (by decide) (fun q144 => ?_) (fun q144 => ?_)
    · replace q144 := tle q144 (by omega) (by omega)
      exact Go.weak (kont0  _ _ _ K )
    · replace q144 := tnle q144 (by omega) (by omega)
      refine Go.iload_n dMo_out_61 rfl ?_
      refine Go.if_eq (tgt := 95) dMo_out_62 (by decide) (fun q145 => ?_) (fun q145 => ?_)
      · refine Go.iinc (v := nI (t + 1)) dMo_out_95 (by decide) rfl (nI_inc _) rfl ?_
        refine Go.goto (tgt := 52) dMo_out_98 (by decide) ?_
        exact Go.weak (ih (mt - ((t + 1))) (by omega) ((t + 1)) _ _ K (by omega) (Nat.le_refl _))
      · refine Go.aload_n dMo_out_65 rfl (Nat.ne_of_beq_eq_false rfl) ?_
        refine Go.getR dMo_out_66 flMo_39 (Nat.le_of_ble_eq_true rfl) rfl K.r_state ?_
        refine Go.iload dMo_out_69 rfl ?_
        refine Go.ialdv (v := ((stf (t)))) (jn := t) dMo_out_71 rfl (Nat.lt_of_lt_of_eq (by omega) (K.l_state).symm) (by omega) (K.state (t)) ?_
        refine Go.if_ne (tgt := 95) dMo_out_72 (by decide) (fun q147 => ?_) (fun q147 => ?_)
        · refine Go.iinc (v := nI (t + 1)) dMo_out_95 (by decide) rfl (nI_inc _) rfl ?_
          refine Go.goto (tgt := 52) dMo_out_98 (by decide) ?_
          exact Go.weak (ih (mt - ((t + 1))) (by omega) ((t + 1)) _ _ K (by omega) (Nat.le_refl _))
        · refine Go.aload_n dMo_out_75 rfl (Nat.ne_of_beq_eq_false rfl) ?_
          refine Go.getR dMo_out_76 flMo_54 (Nat.le_of_ble_eq_true rfl) rfl K.r_doorOf ?_
          refine Go.iload dMo_out_79 rfl ?_
          refine Go.iald (jn := t) dMo_out_81 rfl (Nat.lt_of_lt_of_eq (by omega) (K.l_doorOf).symm) (by omega) ?_
          refine Go.iload_n dMo_out_82 rfl ?_
          refine Go.icmp_ne (tgt := 95) dMo_out_83 (by decide) (fun q148 => ?_) (fun q148 => ?_)
          · refine Go.iinc (v := nI (t + 1)) dMo_out_95 (by decide) rfl (nI_inc _) rfl ?_
            refine Go.goto (tgt := 52) dMo_out_98 (by decide) ?_
            exact Go.weak (ih (mt - ((t + 1))) (by omega) ((t + 1)) _ _ K (by omega) (Nat.le_refl _))
          · refine Go.aload_n dMo_out_86 rfl (Nat.ne_of_beq_eq_false rfl) ?_
            refine Go.iload dMo_out_87 rfl ?_
            refine Go.cVf mMo_nothing [vI (nI (t))] dMo_out_89 vwMo_135 (Nat.le_of_ble_eq_true rfl) rfl rfl (Nat.le_of_ble_eq_true rfl) rfl (Nat.le_of_ble_eq_true rfl) (g_Mo_nothing K (t) (by omega)) ?_
            refine Go.hav (Kp := KR ((md, mt, wn), nw, stf, wtf) h0) ((K.upDoorOf (x := t) (Or.inl rfl) (fun z => absurd (q147.symm.trans z) (by decide))).up (by omega)) (fun hh79 K => ?_)
            refine Go.iinc dMo_out_92 (by decide) rfl rfl rfl ?_
            refine Go.iinc (v := nI (t + 1)) dMo_out_95 (by decide) rfl (nI_inc _) rfl ?_
            refine Go.goto (tgt := 52) dMo_out_98 (by decide) ?_
            exact Go.weak (ih (mt - ((t + 1))) (by omega) ((t + 1)) _ _ K (by omega) (Nat.le_refl _))
set_option maxHeartbeats 2000000 in
theorem g_Mo_out {sc : Nat × (Nat → Int32)} {d bc bs : Nat} {md mt wn : Nat} {nw : Int32} {stf wtf : Nat → Int32} {h0 : AH} {h : AH} (K : KR ((md, mt, wn), nw, stf, wtf) h0 h) (x y : Int32) (hy : y = 0 ∨ y = 1) : Go sc true false (d + 1) bc bs mMo_out 0 [vO 5 (0), vI x, vI y, vU, vU] [] h (PV (fun _ => KR ((md, mt, wn), nw, stf, wtf) h0)) := by
  have b_md : md ≤ 4 := K.doors_le
  have b_mt : mt ≤ 12 := K.trucks_le
  have b_wn : wn ≤ 12 := K.waits_le
  refine Go.aload_n dMo_out_0 rfl (Nat.ne_of_beq_eq_false rfl) ?_
  refine Go.aload_n dMo_out_1 rfl (Nat.ne_of_beq_eq_false rfl) ?_
  refine Go.iload_n dMo_out_2 rfl ?_
  refine Go.cVr mMo_noDoor [vI x] dMo_out_3 vwMo_156 (Nat.le_of_ble_eq_true rfl) rfl rfl (Nat.le_of_ble_eq_true rfl) rfl (Nat.le_of_ble_eq_true rfl) (g_Mo_noDoor K _) ?_
  rintro v149 (⟨rfl, t149, ht149, rfl⟩ | ⟨rfl, hq149⟩)
  · refine Go.if_eq (tgt := 13) dMo_out_6 (by decide) (fun q150 => ?_) (fun q150 => ?_)
    · refine Go.aload_n dMo_out_13 rfl (Nat.ne_of_beq_eq_false rfl) ?_
      refine Go.getR dMo_out_14 flMo_29 (Nat.le_of_ble_eq_true rfl) rfl K.r_isOut ?_
      refine Go.iload_n dMo_out_17 rfl ?_
      refine Go.zald (jn := t149) dMo_out_18 rfl (Nat.lt_of_lt_of_eq (by omega) (K.l_isOut).symm) (by omega) ?_
      refine Go.iload_n dMo_out_19 rfl ?_
      refine Go.icmp_ne (tgt := 27) dMo_out_20 (by decide) (fun q151 => ?_) (fun q151 => ?_)
      · refine Go.iconst (v := nI 0) dMo_out_27 (by decide) ?_
        refine Go.putI dMo_out_28 fwMo_out_7 (Nat.le_of_ble_eq_true rfl) rfl ⟨rfl, rfl⟩ ?_
        refine Go.hav (Kp := fun z => KR ((md, mt, wn), nw, stf, wtf) h0 z ∧ z.1 5 0 0 = nI (0) ∧ (∀ c i k, c ≠ 5 → z.1 c i k = h.1 c i k)) ⟨K.up (by omega), up_self, fun _ _ _ hc => up_ne (Or.inl hc)⟩ (fun hh80 K0 => ?_)
        obtain ⟨K, e0, ek⟩ := K0
        refine Go.aload_n dMo_out_31 rfl (Nat.ne_of_beq_eq_false rfl) ?_
        refine Go.getIv (v := nI (0)) dMo_out_32 flMo_7 (Nat.le_of_ble_eq_true rfl) rfl e0 ?_
        refine Go.if_eq (tgt := 40) dMo_out_35 (by decide) (fun q152 => ?_) (fun q152 => ?_)
        · refine Go.aload_n dMo_out_40 rfl (Nat.ne_of_beq_eq_false rfl) ?_
          refine Go.getR dMo_out_41 flMo_29 (Nat.le_of_ble_eq_true rfl) rfl K.r_isOut ?_
          refine Go.iload_n dMo_out_44 rfl ?_
          refine Go.iload_n dMo_out_45 rfl ?_
          refine Go.zast (jn := t149) dMo_out_46 rfl (Nat.lt_of_lt_of_eq (by omega) (K.l_isOut).symm) (by omega) hy ?_
          refine Go.hav (Kp := KR ((md, mt, wn), nw, stf, wtf) h0) (K.up (by omega)) (fun hh81 K => ?_)
          refine Go.iconst (v := nI 0) dMo_out_47 (by decide) ?_
          refine Go.istore_n dMo_out_48 (by decide) rfl ?_
          refine Go.iconst (v := nI 0) dMo_out_49 (by decide) ?_
          refine Go.istore dMo_out_50 (by decide) rfl ?_
          refine Go.weak (lp_Mo_out_52 (t149) _ (fun n153 z153 h153 K => ?_) _ (0) _ _ K (by omega) (Nat.le_refl _))
          refine Go.iload_n dMo_out_101 rfl ?_
          refine Go.iret dMo_out_102 rfl rfl (by decide) ?_
          exact ⟨_, rfl, K⟩
        · exact absurd q152 (by decide)
      · refine Go.iconst (v := nI 2) dMo_out_23 (by decide) ?_
        refine Go.goto (tgt := 28) dMo_out_24 (by decide) ?_
        refine Go.putI dMo_out_28 fwMo_out_7 (Nat.le_of_ble_eq_true rfl) rfl ⟨rfl, rfl⟩ ?_
        refine Go.hav (Kp := fun z => KR ((md, mt, wn), nw, stf, wtf) h0 z ∧ z.1 5 0 0 = nI (2) ∧ (∀ c i k, c ≠ 5 → z.1 c i k = h.1 c i k)) ⟨K.up (by omega), up_self, fun _ _ _ hc => up_ne (Or.inl hc)⟩ (fun hh82 K0 => ?_)
        obtain ⟨K, e0, ek⟩ := K0
        refine Go.aload_n dMo_out_31 rfl (Nat.ne_of_beq_eq_false rfl) ?_
        refine Go.getIv (v := nI (2)) dMo_out_32 flMo_7 (Nat.le_of_ble_eq_true rfl) rfl e0 ?_
        refine Go.if_eq (tgt := 40) dMo_out_35 (by decide) (fun q154 => ?_) (fun q154 => ?_)
        · exact absurd q154 (by decide)
        · refine Go.iconst (v := nI 0) dMo_out_38 (by decide) ?_
          refine Go.iret dMo_out_39 rfl rfl (by decide) ?_
          exact ⟨_, rfl, K⟩
    · exact absurd q150 (by decide)
  · refine Go.if_eq (tgt := 13) dMo_out_6 (by decide) (fun q155 => ?_) (fun q155 => ?_)
    · exact absurd q155 (by decide)
    · refine Go.iconst (v := nI 1) dMo_out_9 (by decide) ?_
      refine Go.goto (tgt := 28) dMo_out_10 (by decide) ?_
      refine Go.putI dMo_out_28 fwMo_out_7 (Nat.le_of_ble_eq_true rfl) rfl ⟨rfl, rfl⟩ ?_
      refine Go.hav (Kp := fun z => KR ((md, mt, wn), nw, stf, wtf) h0 z ∧ z.1 5 0 0 = nI (1) ∧ (∀ c i k, c ≠ 5 → z.1 c i k = h.1 c i k)) ⟨K.up (by omega), up_self, fun _ _ _ hc => up_ne (Or.inl hc)⟩ (fun hh83 K0 => ?_)
      obtain ⟨K, e0, ek⟩ := K0
      refine Go.aload_n dMo_out_31 rfl (Nat.ne_of_beq_eq_false rfl) ?_
      refine Go.getIv (v := nI (1)) dMo_out_32 flMo_7 (Nat.le_of_ble_eq_true rfl) rfl e0 ?_
      refine Go.if_eq (tgt := 40) dMo_out_35 (by decide) (fun q156 => ?_) (fun q156 => ?_)
      · exact absurd q156 (by decide)
      · refine Go.iconst (v := nI 0) dMo_out_38 (by decide) ?_
        refine Go.iret dMo_out_39 rfl rfl (by decide) ?_
        exact ⟨_, rfl, K⟩
set_option maxHeartbeats 2000000 in
theorem lp_Mo_order_65 {sc : Nat × (Nat → Int32)} {d bc bs : Nat} {md mt wn : Nat} {nw : Int32} {stf wtf : Nat → Int32} {h0 : AH} {h : AH} {Q : GO → AH → Prop} (q : Nat) (y : Int32) (t : Nat) (ht : t < mt) (K : KR ((md, mt, wn), nw, stf, wtf) h0 h) (kont0 : ∀ (n : Int32) (z : AV), Go sc false false (d + 1) bc bs mMo_order 149 [vO 5 (0), vI (nI (q)), vI y, vI (nI (t)), vI n, z] [] h Q) : ∀ (k0 : Nat) (o : Nat) (n : Int32), (o ≤ mt) → mt - o ≤ k0 → Go sc false false (d + 1) bc bs mMo_order 65 [vO 5 (0), vI (nI (q)), vI y, vI (nI (t)), vI n, vI (nI (o))] [] h Q := by
  intro k0
  induction k0 using Nat.strongRecOn with
  | _ k0 ih =>
    intro o n ho hk0
    have b_md : md ≤ 4 := K.doors_le
    have b_mt : mt ≤ 12 := K.trucks_le
    have b_wn : wn ≤ 12 := K.waits_le
    refine Go.iload dMo_order_65 rfl ?_
    refine Go.aload_n dMo_order_67 rfl (Nat.ne_of_beq_eq_false rfl) ?_
    refine Go.getIv (v := nI (mt)) dMo_order_68 flMo_36 (Nat.le_of_ble_eq_true rfl) rfl K.trucks ?_
    refine Go.icmp_ge (tgt := 149) dMo_order_71 (by decide) (fun q157 => ?_) (fun q157 => ?_)
    · replace q157 := tle q157 (by omega) (by omega)
      exact Go.weak (kont0  _ _ )
    · replace q157 := tnle q157 (by omega) (by omega)
      have J158 : ∀ x159 x160 : Int32, Go sc false false (d + 1) bc bs mMo_order 140 [vO 5 (0), vI (nI (q)), vI y, vI (nI (t)), vI n, vI (nI (o))] [vI x160, vI x159] h (Q) := by
        intro x159 x160
        refine Go.iadd dMo_order_140 ?_
        refine Go.istore dMo_order_141 (by decide) rfl ?_
        refine Go.iinc (v := nI (o + 1)) dMo_order_143 (by decide) rfl (nI_inc _) rfl ?_
        refine Go.goto (tgt := 65) dMo_order_146 (by decide) ?_
        exact Go.weak (ih (mt - ((o + 1))) (by omega) ((o + 1)) _ (by omega) (Nat.le_refl _))
      refine Go.iload dMo_order_74 rfl ?_
      refine Go.aload_n dMo_order_76 rfl (Nat.ne_of_beq_eq_false rfl) ?_
      refine Go.getR dMo_order_77 flMo_39 (Nat.le_of_ble_eq_true rfl) rfl K.r_state ?_
      refine Go.iload dMo_order_80 rfl ?_
      refine Go.ialdv (v := ((stf (o)))) (jn := o) dMo_order_82 rfl (Nat.lt_of_lt_of_eq (by omega) (K.l_state).symm) (by omega) (K.state (o)) ?_
      refine Go.if_ne (tgt := 139) dMo_order_83 (by decide) (fun q162 => ?_) (fun q162 => ?_)
      · refine Go.iconst (v := nI 0) dMo_order_139 (by decide) ?_
        exact Go.weak (J158 _ _)
      · refine Go.aload_n dMo_order_86 rfl (Nat.ne_of_beq_eq_false rfl) ?_
        refine Go.getR dMo_order_87 flMo_54 (Nat.le_of_ble_eq_true rfl) rfl K.r_doorOf ?_
        refine Go.iload dMo_order_90 rfl ?_
        refine Go.iald (jn := o) dMo_order_92 rfl (Nat.lt_of_lt_of_eq (by omega) (K.l_doorOf).symm) (by omega) ?_
        refine Go.iload_n dMo_order_93 rfl ?_
        refine Go.icmp_ne (tgt := 139) dMo_order_94 (by decide) (fun q163 => ?_) (fun q163 => ?_)
        · refine Go.iconst (v := nI 0) dMo_order_139 (by decide) ?_
          exact Go.weak (J158 _ _)
        · refine Go.aload_n dMo_order_97 rfl (Nat.ne_of_beq_eq_false rfl) ?_
          refine Go.getR dMo_order_98 flMo_57 (Nat.le_of_ble_eq_true rfl) rfl K.r_start ?_
          refine Go.iload dMo_order_101 rfl ?_
          refine Go.iald (jn := o) dMo_order_103 rfl (Nat.lt_of_lt_of_eq (by omega) (K.l_start).symm) (by omega) ?_
          refine Go.aload_n dMo_order_104 rfl (Nat.ne_of_beq_eq_false rfl) ?_
          refine Go.getR dMo_order_105 flMo_57 (Nat.le_of_ble_eq_true rfl) rfl K.r_start ?_
          refine Go.iload_n dMo_order_108 rfl ?_
          refine Go.iald (jn := t) dMo_order_109 rfl (Nat.lt_of_lt_of_eq (by omega) (K.l_start).symm) (by omega) ?_
          refine Go.icmp_lt (tgt := 135) dMo_order_110 (by decide) (fun q164 => ?_) (fun q164 => ?_)
          · refine Go.iconst (v := nI 1) dMo_order_135 (by decide) ?_
            refine Go.goto (tgt := 140) dMo_order_136 (by decide) ?_
            exact Go.weak (J158 _ _)
          · refine Go.aload_n dMo_order_113 rfl (Nat.ne_of_beq_eq_false rfl) ?_
            refine Go.getR dMo_order_114 flMo_57 (Nat.le_of_ble_eq_true rfl) rfl K.r_start ?_
            refine Go.iload dMo_order_117 rfl ?_
            refine Go.iald (jn := o) dMo_order_119 rfl (Nat.lt_of_lt_of_eq (by omega) (K.l_start).symm) (by omega) ?_
            refine Go.aload_n dMo_order_120 rfl (Nat.ne_of_beq_eq_false rfl) ?_
            refine Go.getR dMo_order_121 flMo_57 (Nat.le_of_ble_eq_true rfl) rfl K.r_start ?_
            refine Go.iload_n dMo_order_124 rfl ?_
            refine Go.iald (jn := t) dMo_order_125 rfl (Nat.lt_of_lt_of_eq (by omega) (K.l_start).symm) (by omega) ?_
            refine Go.icmp_ne (tgt := 139) dMo_order_126 (by decide) (fun q165 => ?_) (fun q165 => ?_)
            · refine Go.iconst (v := nI 0) dMo_order_139 (by decide) ?_
              exact Go.weak (J158 _ _)
            · refine Go.iload dMo_order_129 rfl ?_
              refine Go.iload_n dMo_order_131 rfl ?_
              refine Go.icmp_ge (tgt := 139) dMo_order_132 (by decide) (fun q166 => ?_) (fun q166 => ?_)
              · replace q166 := tle q166 (by omega) (by omega)
                refine Go.iconst (v := nI 0) dMo_order_139 (by decide) ?_
                exact Go.weak (J158 _ _)
              · replace q166 := tnle q166 (by omega) (by omega)
                refine Go.iconst (v := nI 1) dMo_order_135 (by decide) ?_
                refine Go.goto (tgt := 140) dMo_order_136 (by decide) ?_
                exact Go.weak (J158 _ _)
set_option maxHeartbeats 2000000 in
theorem lp_Mo_order_32 {sc : Nat × (Nat → Int32)} {d bc bs : Nat} {md mt wn : Nat} {nw : Int32} {stf wtf : Nat → Int32} {h0 : AH} {h : AH} {Q : GO → AH → Prop} (q : Nat) (y : Int32) (hret : ∀ v : Int32, Q (.inl (some (vI v))) h) (K : KR ((md, mt, wn), nw, stf, wtf) h0 h) (kont0 : ∀ (z0 z1 z2 : AV), Go sc false false (d + 1) bc bs mMo_order 163 [vO 5 (0), vI (nI (q)), vI y, z0, z1, z2] [] h Q) : ∀ (k0 : Nat) (t : Nat) (z1 z2 : AV), (t ≤ mt) → mt - t ≤ k0 → Go sc false false (d + 1) bc bs mMo_order 32 [vO 5 (0), vI (nI (q)), vI y, vI (nI (t)), z1, z2] [] h Q := by
  intro k0
  induction k0 using Nat.strongRecOn with
  | _ k0 ih =>
    intro t z1 z2 ht hk0
    have b_md : md ≤ 4 := K.doors_le
    have b_mt : mt ≤ 12 := K.trucks_le
    have b_wn : wn ≤ 12 := K.waits_le
    refine Go.iload_n dMo_order_32 rfl ?_
    refine Go.aload_n dMo_order_33 rfl (Nat.ne_of_beq_eq_false rfl) ?_
    refine Go.getIv (v := nI (mt)) dMo_order_34 flMo_36 (Nat.le_of_ble_eq_true rfl) rfl K.trucks ?_
    refine Go.icmp_ge (tgt := 163) dMo_order_37 (by decide) (fun q167 => ?_) (fun q167 => ?_)
    · replace q167 := tle q167 (by omega) (by omega)
      exact Go.weak (kont0  _ _ _ )
    · replace q167 := tnle q167 (by omega) (by omega)
      refine Go.aload_n dMo_order_40 rfl (Nat.ne_of_beq_eq_false rfl) ?_
      refine Go.getR dMo_order_41 flMo_39 (Nat.le_of_ble_eq_true rfl) rfl K.r_state ?_
      refine Go.iload_n dMo_order_44 rfl ?_
      refine Go.ialdv (v := ((stf (t)))) (jn := t) dMo_order_45 rfl (Nat.lt_of_lt_of_eq (by omega) (K.l_state).symm) (by omega) (K.state (t)) ?_
      refine Go.if_ne (tgt := 157) dMo_order_46 (by decide) (fun q169 => ?_) (fun q169 => ?_)
      · refine Go.iinc (v := nI (t + 1)) dMo_order_157 (by decide) rfl (nI_inc _) rfl ?_
        refine Go.goto (tgt := 32) dMo_order_160 (by decide) ?_
        exact Go.weak (ih (mt - ((t + 1))) (by omega) ((t + 1)) _ _ (by omega) (Nat.le_refl _))
      · refine Go.aload_n dMo_order_49 rfl (Nat.ne_of_beq_eq_false rfl) ?_
        refine Go.getR dMo_order_50 flMo_54 (Nat.le_of_ble_eq_true rfl) rfl K.r_doorOf ?_
        refine Go.iload_n dMo_order_53 rfl ?_
        refine Go.iald (jn := t) dMo_order_54 rfl (Nat.lt_of_lt_of_eq (by omega) (K.l_doorOf).symm) (by omega) ?_
        refine Go.iload_n dMo_order_55 rfl ?_
        refine Go.icmp_ne (tgt := 157) dMo_order_56 (by decide) (fun q170 => ?_) (fun q170 => ?_)
        · refine Go.iinc (v := nI (t + 1)) dMo_order_157 (by decide) rfl (nI_inc _) rfl ?_
          refine Go.goto (tgt := 32) dMo_order_160 (by decide) ?_
          exact Go.weak (ih (mt - ((t + 1))) (by omega) ((t + 1)) _ _ (by omega) (Nat.le_refl _))
        · refine Go.iconst (v := nI 0) dMo_order_59 (by decide) ?_
          refine Go.istore dMo_order_60 (by decide) rfl ?_
          refine Go.iconst (v := nI 0) dMo_order_62 (by decide) ?_
          refine Go.istore dMo_order_63 (by decide) rfl ?_
          refine Go.weak (lp_Mo_order_65 (q) _ (t) (by omega) K (fun n171 z171 => ?_) _ (0) _ (by omega) (Nat.le_refl _))
          refine Go.iload dMo_order_149 rfl ?_
          refine Go.iload_n dMo_order_151 rfl ?_
          refine Go.icmp_ne (tgt := 157) dMo_order_152 (by decide) (fun q172 => ?_) (fun q172 => ?_)
          · refine Go.iinc (v := nI (t + 1)) dMo_order_157 (by decide) rfl (nI_inc _) rfl ?_
            refine Go.goto (tgt := 32) dMo_order_160 (by decide) ?_
            exact Go.weak (ih (mt - ((t + 1))) (by omega) ((t + 1)) _ _ (by omega) (Nat.le_refl _))
          · refine Go.iload_n dMo_order_155 rfl ?_
            refine Go.iret dMo_order_156 rfl rfl (by decide) ?_
            exact hret _
set_option maxHeartbeats 2000000 in
theorem g_Mo_order {sc : Nat × (Nat → Int32)} {d bc bs : Nat} {md mt wn : Nat} {nw : Int32} {stf wtf : Nat → Int32} {h0 : AH} {h : AH} (K : KR ((md, mt, wn), nw, stf, wtf) h0 h) (x y : Int32) : Go sc true false (d + 1) bc bs mMo_order 0 [vO 5 (0), vI x, vI y, vU, vU, vU] [] h (PV (fun _ => KR ((md, mt, wn), nw, stf, wtf) h0)) := by
  have b_md : md ≤ 4 := K.doors_le
  have b_mt : mt ≤ 12 := K.trucks_le
  have b_wn : wn ≤ 12 := K.waits_le
  refine Go.aload_n dMo_order_0 rfl (Nat.ne_of_beq_eq_false rfl) ?_
  refine Go.aload_n dMo_order_1 rfl (Nat.ne_of_beq_eq_false rfl) ?_
  refine Go.iload_n dMo_order_2 rfl ?_
  refine Go.cVr mMo_noDoor [vI x] dMo_order_3 vwMo_156 (Nat.le_of_ble_eq_true rfl) rfl rfl (Nat.le_of_ble_eq_true rfl) rfl (Nat.le_of_ble_eq_true rfl) (g_Mo_noDoor K _) ?_
  rintro v173 (⟨rfl, t173, ht173, rfl⟩ | ⟨rfl, hq173⟩)
  · refine Go.if_ne (tgt := 13) dMo_order_6 (by decide) (fun q174 => ?_) (fun q174 => ?_)
    · exact absurd q174 (by decide)
    · refine Go.iload_n dMo_order_9 rfl ?_
      refine Go.if_ge (tgt := 17) dMo_order_10 (by decide) (fun q175 => ?_) (fun q175 => ?_)
      · refine Go.iconst (v := nI 0) dMo_order_17 (by decide) ?_
        refine Go.putI dMo_order_18 fwMo_order_7 (Nat.le_of_ble_eq_true rfl) rfl ⟨rfl, rfl⟩ ?_
        refine Go.hav (Kp := fun z => KR ((md, mt, wn), nw, stf, wtf) h0 z ∧ z.1 5 0 0 = nI (0) ∧ (∀ c i k, c ≠ 5 → z.1 c i k = h.1 c i k)) ⟨K.up (by omega), up_self, fun _ _ _ hc => up_ne (Or.inl hc)⟩ (fun hh84 K0 => ?_)
        obtain ⟨K, e0, ek⟩ := K0
        refine Go.aload_n dMo_order_21 rfl (Nat.ne_of_beq_eq_false rfl) ?_
        refine Go.getIv (v := nI (0)) dMo_order_22 flMo_7 (Nat.le_of_ble_eq_true rfl) rfl e0 ?_
        refine Go.if_eq (tgt := 30) dMo_order_25 (by decide) (fun q176 => ?_) (fun q176 => ?_)
        · refine Go.iconst (v := nI 0) dMo_order_30 (by decide) ?_
          refine Go.istore_n dMo_order_31 (by decide) rfl ?_
          refine Go.weak (lp_Mo_order_32 (t173) _ (fun _ => ⟨_, rfl, K⟩) K (fun z0177 z1177 z2177 => ?_) _ (0) _ _ (by omega) (Nat.le_refl _))
          refine Go.aload_n dMo_order_163 rfl (Nat.ne_of_beq_eq_false rfl) ?_
          refine Go.iconst (v := nI 1) dMo_order_164 (by decide) ?_
          refine Go.putI dMo_order_165 fwMo_order_7 (Nat.le_of_ble_eq_true rfl) rfl ⟨rfl, rfl⟩ ?_
          refine Go.hav (Kp := fun z => KR ((md, mt, wn), nw, stf, wtf) h0 z ∧ z.1 5 0 0 = nI (1) ∧ (∀ c i k, c ≠ 5 → z.1 c i k = hh84.1 c i k)) ⟨K.up (by omega), up_self, fun _ _ _ hc => up_ne (Or.inl hc)⟩ (fun hh85 K0 => ?_)
          obtain ⟨K, e0, ek⟩ := K0
          refine Go.iconst (v := nI 0) dMo_order_168 (by decide) ?_
          refine Go.iret dMo_order_169 rfl rfl (by decide) ?_
          exact ⟨_, rfl, K⟩
        · exact absurd q176 (by decide)
      · refine Go.iconst (v := nI 1) dMo_order_13 (by decide) ?_
        refine Go.goto (tgt := 18) dMo_order_14 (by decide) ?_
        refine Go.putI dMo_order_18 fwMo_order_7 (Nat.le_of_ble_eq_true rfl) rfl ⟨rfl, rfl⟩ ?_
        refine Go.hav (Kp := fun z => KR ((md, mt, wn), nw, stf, wtf) h0 z ∧ z.1 5 0 0 = nI (1) ∧ (∀ c i k, c ≠ 5 → z.1 c i k = h.1 c i k)) ⟨K.up (by omega), up_self, fun _ _ _ hc => up_ne (Or.inl hc)⟩ (fun hh86 K0 => ?_)
        obtain ⟨K, e0, ek⟩ := K0
        refine Go.aload_n dMo_order_21 rfl (Nat.ne_of_beq_eq_false rfl) ?_
        refine Go.getIv (v := nI (1)) dMo_order_22 flMo_7 (Nat.le_of_ble_eq_true rfl) rfl e0 ?_
        refine Go.if_eq (tgt := 30) dMo_order_25 (by decide) (fun q178 => ?_) (fun q178 => ?_)
        · exact absurd q178 (by decide)
        · refine Go.iconst (v := nI 0) dMo_order_28 (by decide) ?_
          refine Go.iret dMo_order_29 rfl rfl (by decide) ?_
          exact ⟨_, rfl, K⟩
  · refine Go.if_ne (tgt := 13) dMo_order_6 (by decide) (fun q179 => ?_) (fun q179 => ?_)
    · refine Go.iconst (v := nI 1) dMo_order_13 (by decide) ?_
      refine Go.goto (tgt := 18) dMo_order_14 (by decide) ?_
      refine Go.putI dMo_order_18 fwMo_order_7 (Nat.le_of_ble_eq_true rfl) rfl ⟨rfl, rfl⟩ ?_
      refine Go.hav (Kp := fun z => KR ((md, mt, wn), nw, stf, wtf) h0 z ∧ z.1 5 0 0 = nI (1) ∧ (∀ c i k, c ≠ 5 → z.1 c i k = h.1 c i k)) ⟨K.up (by omega), up_self, fun _ _ _ hc => up_ne (Or.inl hc)⟩ (fun hh87 K0 => ?_)
      obtain ⟨K, e0, ek⟩ := K0
      refine Go.aload_n dMo_order_21 rfl (Nat.ne_of_beq_eq_false rfl) ?_
      refine Go.getIv (v := nI (1)) dMo_order_22 flMo_7 (Nat.le_of_ble_eq_true rfl) rfl e0 ?_
      refine Go.if_eq (tgt := 30) dMo_order_25 (by decide) (fun q180 => ?_) (fun q180 => ?_)
      · exact absurd q180 (by decide)
      · refine Go.iconst (v := nI 0) dMo_order_28 (by decide) ?_
        refine Go.iret dMo_order_29 rfl rfl (by decide) ?_
        exact ⟨_, rfl, K⟩
    · exact absurd q179 (by decide)
set_option maxHeartbeats 2000000 in
theorem lp_Mo_known_44 {sc : Nat × (Nat → Int32)} {d bc bs : Nat} {md mt wn : Nat} {nw : Int32} {stf wtf : Nat → Int32} {h0 : AH} {h : AH} {Q : GO → AH → Prop} (q : Nat) (y : Int32) (K : KR ((md, mt, wn), nw, stf, wtf) h0 h) (kont0 : ∀ (n : Int32) (z : AV), Go sc false false (d + 1) bc bs mMo_known 88 [vO 5 (0), vI (nI (q)), vI y, vI n, z] [] h Q) : ∀ (k0 : Nat) (t : Nat) (n : Int32), (t ≤ mt) → mt - t ≤ k0 → Go sc false false (d + 1) bc bs mMo_known 44 [vO 5 (0), vI (nI (q)), vI y, vI n, vI (nI (t))] [] h Q := by
  intro k0
  induction k0 using Nat.strongRecOn with
  | _ k0 ih =>
    intro t n ht hk0
    have b_md : md ≤ 4 := K.doors_le
    have b_mt : mt ≤ 12 := K.trucks_le
    have b_wn : wn ≤ 12 := K.waits_le
    refine Go.iload dMo_known_44 rfl ?_
    refine Go.aload_n dMo_known_46 rfl (Nat.ne_of_beq_eq_false rfl) ?_
    refine Go.getIv (v := nI (mt)) dMo_known_47 flMo_36 (Nat.le_of_ble_eq_true rfl) rfl K.trucks ?_
    refine Go.icmp_ge (tgt := 88) dMo_known_50 (by decide) (fun q181 => ?_) (fun q181 => ?_)
    · replace q181 := tle q181 (by omega) (by omega)
      exact Go.weak (kont0  _ _ )
    · replace q181 := tnle q181 (by omega) (by omega)
      have J182 : ∀ x183 x184 : Int32, Go sc false false (d + 1) bc bs mMo_known 80 [vO 5 (0), vI (nI (q)), vI y, vI n, vI (nI (t))] [vI x184, vI x183] h (Q) := by
        intro x183 x184
        refine Go.iadd dMo_known_80 ?_
        refine Go.istore_n dMo_known_81 (by decide) rfl ?_
        refine Go.iinc (v := nI (t + 1)) dMo_known_82 (by decide) rfl (nI_inc _) rfl ?_
        refine Go.goto (tgt := 44) dMo_known_85 (by decide) ?_
        exact Go.weak (ih (mt - ((t + 1))) (by omega) ((t + 1)) _ (by omega) (Nat.le_refl _))
      refine Go.iload_n dMo_known_53 rfl ?_
      refine Go.aload_n dMo_known_54 rfl (Nat.ne_of_beq_eq_false rfl) ?_
      refine Go.getR dMo_known_55 flMo_39 (Nat.le_of_ble_eq_true rfl) rfl K.r_state ?_
      refine Go.iload dMo_known_58 rfl ?_
      refine Go.ialdv (v := ((stf (t)))) (jn := t) dMo_known_60 rfl (Nat.lt_of_lt_of_eq (by omega) (K.l_state).symm) (by omega) (K.state (t)) ?_
      refine Go.if_ne (tgt := 79) dMo_known_61 (by decide) (fun q186 => ?_) (fun q186 => ?_)
      · refine Go.iconst (v := nI 0) dMo_known_79 (by decide) ?_
        exact Go.weak (J182 _ _)
      · refine Go.aload_n dMo_known_64 rfl (Nat.ne_of_beq_eq_false rfl) ?_
        refine Go.getR dMo_known_65 flMo_54 (Nat.le_of_ble_eq_true rfl) rfl K.r_doorOf ?_
        refine Go.iload dMo_known_68 rfl ?_
        refine Go.iald (jn := t) dMo_known_70 rfl (Nat.lt_of_lt_of_eq (by omega) (K.l_doorOf).symm) (by omega) ?_
        refine Go.iload_n dMo_known_71 rfl ?_
        refine Go.icmp_ne (tgt := 79) dMo_known_72 (by decide) (fun q187 => ?_) (fun q187 => ?_)
        · refine Go.iconst (v := nI 0) dMo_known_79 (by decide) ?_
          exact Go.weak (J182 _ _)
        · refine Go.iconst (v := nI 1) dMo_known_75 (by decide) ?_
          refine Go.goto (tgt := 80) dMo_known_76 (by decide) ?_
          exact Go.weak (J182 _ _)
set_option maxHeartbeats 2000000 in
theorem g_Mo_known {sc : Nat × (Nat → Int32)} {d bc bs : Nat} {md mt wn : Nat} {nw : Int32} {stf wtf : Nat → Int32} {h0 : AH} {h : AH} (K : KR ((md, mt, wn), nw, stf, wtf) h0 h) (x y : Int32) : Go sc true false (d + 1) bc bs mMo_known 0 [vO 5 (0), vI x, vI y, vU, vU] [] h (PV (fun _ => KR ((md, mt, wn), nw, stf, wtf) h0)) := by
  have b_md : md ≤ 4 := K.doors_le
  have b_mt : mt ≤ 12 := K.trucks_le
  have b_wn : wn ≤ 12 := K.waits_le
  refine Go.aload_n dMo_known_0 rfl (Nat.ne_of_beq_eq_false rfl) ?_
  refine Go.aload_n dMo_known_1 rfl (Nat.ne_of_beq_eq_false rfl) ?_
  refine Go.iload_n dMo_known_2 rfl ?_
  refine Go.cVr mMo_noDoor [vI x] dMo_known_3 vwMo_156 (Nat.le_of_ble_eq_true rfl) rfl rfl (Nat.le_of_ble_eq_true rfl) rfl (Nat.le_of_ble_eq_true rfl) (g_Mo_noDoor K _) ?_
  rintro v188 (⟨rfl, t188, ht188, rfl⟩ | ⟨rfl, hq188⟩)
  · refine Go.if_eq (tgt := 13) dMo_known_6 (by decide) (fun q189 => ?_) (fun q189 => ?_)
    · refine Go.iload_n dMo_known_13 rfl ?_
      refine Go.iconst (v := nI 0) dMo_known_14 (by decide) ?_
      refine Go.iconst (v := nI 4) dMo_known_15 (by decide) ?_
      refine Go.cSr mMo_not [vI y, vI (nI (0)), vI (nI (4))] dMo_known_16 vwMo_131 rfl rfl (Nat.le_of_ble_eq_true rfl) rfl (Nat.le_of_ble_eq_true rfl) (g_Mo_not _ _ _) ?_
      rintro v190 (⟨rfl, hq190⟩ | ⟨rfl, hq190⟩)
      · refine Go.if_eq (tgt := 26) dMo_known_19 (by decide) (fun q191 => ?_) (fun q191 => ?_)
        · refine Go.iconst (v := nI 0) dMo_known_26 (by decide) ?_
          refine Go.putI dMo_known_27 fwMo_known_7 (Nat.le_of_ble_eq_true rfl) rfl ⟨rfl, rfl⟩ ?_
          refine Go.hav (Kp := fun z => KR ((md, mt, wn), nw, stf, wtf) h0 z ∧ z.1 5 0 0 = nI (0) ∧ (∀ c i k, c ≠ 5 → z.1 c i k = h.1 c i k)) ⟨K.up (by omega), up_self, fun _ _ _ hc => up_ne (Or.inl hc)⟩ (fun hh88 K0 => ?_)
          obtain ⟨K, e0, ek⟩ := K0
          refine Go.aload_n dMo_known_30 rfl (Nat.ne_of_beq_eq_false rfl) ?_
          refine Go.getIv (v := nI (0)) dMo_known_31 flMo_7 (Nat.le_of_ble_eq_true rfl) rfl e0 ?_
          refine Go.if_eq (tgt := 39) dMo_known_34 (by decide) (fun q192 => ?_) (fun q192 => ?_)
          · refine Go.iconst (v := nI 0) dMo_known_39 (by decide) ?_
            refine Go.istore_n dMo_known_40 (by decide) rfl ?_
            refine Go.iconst (v := nI 0) dMo_known_41 (by decide) ?_
            refine Go.istore dMo_known_42 (by decide) rfl ?_
            refine Go.weak (lp_Mo_known_44 (t188) _ K (fun n193 z193 => ?_) _ (0) _ (by omega) (Nat.le_refl _))
            refine Go.iload_n dMo_known_88 rfl ?_
            refine Go.if_ne (tgt := 100) dMo_known_89 (by decide) (fun q194 => ?_) (fun q194 => ?_)
            · refine Go.iload_n dMo_known_100 rfl ?_
              refine Go.iconst (v := nI 1) dMo_known_101 (by decide) ?_
              refine Go.icmp_ne (tgt := 122) dMo_known_102 (by decide) (fun q195 => ?_) (fun q195 => ?_)
              · refine Go.iload_n dMo_known_122 rfl ?_
                refine Go.iconst (v := nI 2) dMo_known_123 (by decide) ?_
                refine Go.icmp_ne (tgt := 131) dMo_known_124 (by decide) (fun q196 => ?_) (fun q196 => ?_)
                · refine Go.iload_n dMo_known_131 rfl ?_
                  refine Go.iconst (v := nI 3) dMo_known_132 (by decide) ?_
                  refine Go.icmp_ne (tgt := 145) dMo_known_133 (by decide) (fun q197 => ?_) (fun q197 => ?_)
                  · refine Go.aload_n dMo_known_145 rfl (Nat.ne_of_beq_eq_false rfl) ?_
                    refine Go.getR dMo_known_146 flMo_33 (Nat.le_of_ble_eq_true rfl) rfl K.r_left ?_
                    refine Go.iload_n dMo_known_149 rfl ?_
                    refine Go.iald (jn := t188) dMo_known_150 rfl (Nat.lt_of_lt_of_eq (by omega) (K.l_left).symm) (by omega) ?_
                    refine Go.iret dMo_known_151 rfl rfl (by decide) ?_
                    exact ⟨_, rfl, K⟩
                  · refine Go.aload_n dMo_known_136 rfl (Nat.ne_of_beq_eq_false rfl) ?_
                    refine Go.getR dMo_known_137 flMo_19 (Nat.le_of_ble_eq_true rfl) rfl K.r_kinds ?_
                    refine Go.iload_n dMo_known_140 rfl ?_
                    refine Go.iald (jn := t188) dMo_known_141 rfl (Nat.lt_of_lt_of_eq (by omega) (K.l_kinds).symm) (by omega) ?_
                    refine Go.goto (tgt := 151) dMo_known_142 (by decide) ?_
                    refine Go.iret dMo_known_151 rfl rfl (by decide) ?_
                    exact ⟨_, rfl, K⟩
                · refine Go.iload_n dMo_known_127 rfl ?_
                  refine Go.goto (tgt := 151) dMo_known_128 (by decide) ?_
                  refine Go.iret dMo_known_151 rfl rfl (by decide) ?_
                  exact ⟨_, rfl, K⟩
              · refine Go.aload_n dMo_known_105 rfl (Nat.ne_of_beq_eq_false rfl) ?_
                refine Go.getR dMo_known_106 flMo_29 (Nat.le_of_ble_eq_true rfl) rfl K.r_isOut ?_
                refine Go.iload_n dMo_known_109 rfl ?_
                refine Go.zald (jn := t188) dMo_known_110 rfl (Nat.lt_of_lt_of_eq (by omega) (K.l_isOut).symm) (by omega) ?_
                refine Go.if_eq (tgt := 118) dMo_known_111 (by decide) (fun q198 => ?_) (fun q198 => ?_)
                · refine Go.iconst (v := nI 0) dMo_known_118 (by decide) ?_
                  refine Go.goto (tgt := 151) dMo_known_119 (by decide) ?_
                  refine Go.iret dMo_known_151 rfl rfl (by decide) ?_
                  exact ⟨_, rfl, K⟩
                · refine Go.iconst (v := nI 1) dMo_known_114 (by decide) ?_
                  refine Go.goto (tgt := 151) dMo_known_115 (by decide) ?_
                  refine Go.iret dMo_known_151 rfl rfl (by decide) ?_
                  exact ⟨_, rfl, K⟩
            · refine Go.aload_n dMo_known_92 rfl (Nat.ne_of_beq_eq_false rfl) ?_
              refine Go.iload_n dMo_known_93 rfl ?_
              refine Go.cVr mMo_at [vI (nI (t188))] dMo_known_94 vwMo_103 (Nat.le_of_ble_eq_true rfl) rfl rfl (Nat.le_of_ble_eq_true rfl) rfl (Nat.le_of_ble_eq_true rfl) (g_Mo_at K _  ) ?_
              rintro v199 (rfl | ⟨t199, ht199, rfl⟩)
              · refine Go.goto (tgt := 151) dMo_known_97 (by decide) ?_
                refine Go.iret dMo_known_151 rfl rfl (by decide) ?_
                exact ⟨_, rfl, K⟩
              · refine Go.goto (tgt := 151) dMo_known_97 (by decide) ?_
                refine Go.iret dMo_known_151 rfl rfl (by decide) ?_
                exact ⟨_, rfl, K⟩
          · exact absurd q192 (by decide)
        · exact absurd q191 (by decide)
      · refine Go.if_eq (tgt := 26) dMo_known_19 (by decide) (fun q200 => ?_) (fun q200 => ?_)
        · exact absurd q200 (by decide)
        · refine Go.iconst (v := nI 2) dMo_known_22 (by decide) ?_
          refine Go.goto (tgt := 27) dMo_known_23 (by decide) ?_
          refine Go.putI dMo_known_27 fwMo_known_7 (Nat.le_of_ble_eq_true rfl) rfl ⟨rfl, rfl⟩ ?_
          refine Go.hav (Kp := fun z => KR ((md, mt, wn), nw, stf, wtf) h0 z ∧ z.1 5 0 0 = nI (2) ∧ (∀ c i k, c ≠ 5 → z.1 c i k = h.1 c i k)) ⟨K.up (by omega), up_self, fun _ _ _ hc => up_ne (Or.inl hc)⟩ (fun hh89 K0 => ?_)
          obtain ⟨K, e0, ek⟩ := K0
          refine Go.aload_n dMo_known_30 rfl (Nat.ne_of_beq_eq_false rfl) ?_
          refine Go.getIv (v := nI (2)) dMo_known_31 flMo_7 (Nat.le_of_ble_eq_true rfl) rfl e0 ?_
          refine Go.if_eq (tgt := 39) dMo_known_34 (by decide) (fun q201 => ?_) (fun q201 => ?_)
          · exact absurd q201 (by decide)
          · refine Go.iconst (v := nI 0) dMo_known_37 (by decide) ?_
            refine Go.iret dMo_known_38 rfl rfl (by decide) ?_
            exact ⟨_, rfl, K⟩
    · exact absurd q189 (by decide)
  · refine Go.if_eq (tgt := 13) dMo_known_6 (by decide) (fun q202 => ?_) (fun q202 => ?_)
    · exact absurd q202 (by decide)
    · refine Go.iconst (v := nI 1) dMo_known_9 (by decide) ?_
      refine Go.goto (tgt := 27) dMo_known_10 (by decide) ?_
      refine Go.putI dMo_known_27 fwMo_known_7 (Nat.le_of_ble_eq_true rfl) rfl ⟨rfl, rfl⟩ ?_
      refine Go.hav (Kp := fun z => KR ((md, mt, wn), nw, stf, wtf) h0 z ∧ z.1 5 0 0 = nI (1) ∧ (∀ c i k, c ≠ 5 → z.1 c i k = h.1 c i k)) ⟨K.up (by omega), up_self, fun _ _ _ hc => up_ne (Or.inl hc)⟩ (fun hh90 K0 => ?_)
      obtain ⟨K, e0, ek⟩ := K0
      refine Go.aload_n dMo_known_30 rfl (Nat.ne_of_beq_eq_false rfl) ?_
      refine Go.getIv (v := nI (1)) dMo_known_31 flMo_7 (Nat.le_of_ble_eq_true rfl) rfl e0 ?_
      refine Go.if_eq (tgt := 39) dMo_known_34 (by decide) (fun q203 => ?_) (fun q203 => ?_)
      · exact absurd q203 (by decide)
      · refine Go.iconst (v := nI 0) dMo_known_37 (by decide) ?_
        refine Go.iret dMo_known_38 rfl rfl (by decide) ?_
        exact ⟨_, rfl, K⟩
set_option maxHeartbeats 2000000 in
theorem lp_Mo_count_12 {sc : Nat × (Nat → Int32)} {d bc bs : Nat} {md mt wn : Nat} {nw : Int32} {stf wtf : Nat → Int32} {h0 : AH} {Q : GO → AH → Prop} (y : Int32) (kont0 : ∀ (z : AV) (h1 : AH), (KR ((md, mt, wn), nw, stf, wtf) h0 h1) → Go sc false false (d + 1) bc bs mMo_count 27 [vO 5 (0), vI y, vO 100 34, z] [] h1 Q) : ∀ (k0 : Nat) (k : Nat) (h : AH), KR ((md, mt, wn), nw, stf, wtf) h0 h → (k ≤ 4) → 4 - k ≤ k0 → Go sc false false (d + 1) bc bs mMo_count 12 [vO 5 (0), vI y, vO 100 34, vI (nI (k))] [] h Q := by
  intro k0
  induction k0 using Nat.strongRecOn with
  | _ k0 ih =>
    intro k h K hk hk0
    have b_md : md ≤ 4 := K.doors_le
    have b_mt : mt ≤ 12 := K.trucks_le
    have b_wn : wn ≤ 12 := K.waits_le
    refine Go.iload_n dMo_count_12 rfl ?_
    refine Go.iconst (v := nI 4) dMo_count_13 (by decide) ?_
    refine Go.icmp_ge (tgt := 27) dMo_count_14 (by decide) (fun q204 => ?_) (fun q204 => ?_)
    · replace q204 := tle q204 (by omega) (by omega)
      exact Go.weak (kont0  _ _ K )
    · replace q204 := tnle q204 (by omega) (by omega)
      refine Go.aload_n dMo_count_17 rfl (Nat.ne_of_beq_eq_false rfl) ?_
      refine Go.iload_n dMo_count_18 rfl ?_
      refine Go.iconst (v := nI 0) dMo_count_19 (by decide) ?_
      refine Go.iast (jn := k) dMo_count_20 rfl (Nat.lt_of_lt_of_eq (by omega) (K.l_counts).symm) (by omega) ?_
      refine Go.hav (Kp := KR ((md, mt, wn), nw, stf, wtf) h0) (K.up (by omega)) (fun hh91 K => ?_)
      refine Go.iinc (v := nI (k + 1)) dMo_count_21 (by decide) rfl (nI_inc _) rfl ?_
      refine Go.goto (tgt := 12) dMo_count_24 (by decide) ?_
      exact Go.weak (ih (4 - ((k + 1))) (by omega) ((k + 1))  _ K (by omega) (Nat.le_refl _))
set_option maxHeartbeats 2000000 in
theorem lp_Mo_count_29 {sc : Nat × (Nat → Int32)} {d bc bs : Nat} {md mt wn : Nat} {nw : Int32} {stf wtf : Nat → Int32} {h0 : AH} {Q : GO → AH → Prop} (y : Int32) (kont0 : ∀ (z : AV) (h1 : AH), (KR ((md, mt, wn), nw, stf, wtf) h0 h1) → Go sc false false (d + 1) bc bs mMo_count 61 [vO 5 (0), vI y, vO 100 34, z] [] h1 Q) : ∀ (k0 : Nat) (t : Nat) (h : AH), KR ((md, mt, wn), nw, stf, wtf) h0 h → (t ≤ mt) → mt - t ≤ k0 → Go sc false false (d + 1) bc bs mMo_count 29 [vO 5 (0), vI y, vO 100 34, vI (nI (t))] [] h Q := by
  intro k0
  induction k0 using Nat.strongRecOn with
  | _ k0 ih =>
    intro t h K ht hk0
    have b_md : md ≤ 4 := K.doors_le
    have b_mt : mt ≤ 12 := K.trucks_le
    have b_wn : wn ≤ 12 := K.waits_le
    refine Go.iload_n dMo_count_29 rfl ?_
    refine Go.aload_n dMo_count_30 rfl (Nat.ne_of_beq_eq_false rfl) ?_
    refine Go.getIv (v := nI (mt)) dMo_count_31 flMo_36 (Nat.le_of_ble_eq_true rfl) rfl K.trucks ?_
    refine Go.icmp_ge (tgt := 61) dMo_count_34 (by decide) (fun q205 => ?_) (fun q205 => ?_)
    · replace q205 := tle q205 (by omega) (by omega)
      exact Go.weak (kont0  _ _ K )
    · replace q205 := tnle q205 (by omega) (by omega)
      refine Go.aload_n dMo_count_37 rfl (Nat.ne_of_beq_eq_false rfl) ?_
      refine Go.aload_n dMo_count_38 rfl (Nat.ne_of_beq_eq_false rfl) ?_
      refine Go.getR dMo_count_39 flMo_39 (Nat.le_of_ble_eq_true rfl) rfl K.r_state ?_
      refine Go.iload_n dMo_count_42 rfl ?_
      obtain ⟨j206, hj206, ej206⟩ := K.st4 (t) (by omega)
      refine Go.ialdv (v := nI (j206)) (jn := t) dMo_count_43 rfl (Nat.lt_of_lt_of_eq (by omega) (K.l_state).symm) (by omega) ((K.state (t)).trans ej206) ?_
      refine Go.aload_n dMo_count_44 rfl (Nat.ne_of_beq_eq_false rfl) ?_
      refine Go.aload_n dMo_count_45 rfl (Nat.ne_of_beq_eq_false rfl) ?_
      refine Go.getR dMo_count_46 flMo_39 (Nat.le_of_ble_eq_true rfl) rfl K.r_state ?_
      refine Go.iload_n dMo_count_49 rfl ?_
      obtain ⟨j207, hj207, ej207⟩ := K.st4 (t) (by omega)
      refine Go.ialdv (v := nI (j207)) (jn := t) dMo_count_50 rfl (Nat.lt_of_lt_of_eq (by omega) (K.l_state).symm) (by omega) ((K.state (t)).trans ej207) ?_
      refine Go.iald (jn := j207) dMo_count_51 rfl (Nat.lt_of_lt_of_eq (by omega) (K.l_counts).symm) (by omega) ?_
      refine Go.iconst (v := nI 1) dMo_count_52 (by decide) ?_
      refine Go.iadd dMo_count_53 ?_
      refine Go.iast (jn := j206) dMo_count_54 rfl (Nat.lt_of_lt_of_eq (by omega) (K.l_counts).symm) (by omega) ?_
      refine Go.hav (Kp := KR ((md, mt, wn), nw, stf, wtf) h0) (K.up (by omega)) (fun hh92 K => ?_)
      refine Go.iinc (v := nI (t + 1)) dMo_count_55 (by decide) rfl (nI_inc _) rfl ?_
      refine Go.goto (tgt := 29) dMo_count_58 (by decide) ?_
      exact Go.weak (ih (mt - ((t + 1))) (by omega) ((t + 1))  _ K (by omega) (Nat.le_refl _))
set_option maxHeartbeats 2000000 in
theorem g_Mo_count {sc : Nat × (Nat → Int32)} {d bc bs : Nat} {md mt wn : Nat} {nw : Int32} {stf wtf : Nat → Int32} {h0 : AH} {h : AH} (K : KR ((md, mt, wn), nw, stf, wtf) h0 h) (y : Int32) : Go sc true false (d + 1) bc bs mMo_count 0 [vO 5 (0), vI y, vU, vU] [] h (PV (fun _ => KR ((md, mt, wn), nw, stf, wtf) h0)) := by
  have b_md : md ≤ 4 := K.doors_le
  have b_mt : mt ≤ 12 := K.trucks_le
  have b_wn : wn ≤ 12 := K.waits_le
  refine Go.aload_n dMo_count_0 rfl (Nat.ne_of_beq_eq_false rfl) ?_
  refine Go.iconst (v := nI 0) dMo_count_1 (by decide) ?_
  refine Go.putI dMo_count_2 fwMo_count_7 (Nat.le_of_ble_eq_true rfl) rfl ⟨rfl, rfl⟩ ?_
  refine Go.hav (Kp := fun z => KR ((md, mt, wn), nw, stf, wtf) h0 z ∧ z.1 5 0 0 = nI (0) ∧ (∀ c i k, c ≠ 5 → z.1 c i k = h.1 c i k)) ⟨K.up (by omega), up_self, fun _ _ _ hc => up_ne (Or.inl hc)⟩ (fun hh93 K0 => ?_)
  obtain ⟨K, e0, ek⟩ := K0
  refine Go.aload_n dMo_count_5 rfl (Nat.ne_of_beq_eq_false rfl) ?_
  refine Go.getR dMo_count_6 flMo_100 (Nat.le_of_ble_eq_true rfl) rfl K.r_counts ?_
  refine Go.astore_n dMo_count_9 (by decide) rfl ?_
  refine Go.iconst (v := nI 0) dMo_count_10 (by decide) ?_
  refine Go.istore_n dMo_count_11 (by decide) rfl ?_
  refine Go.weak (lp_Mo_count_12 _ (fun z208 h208 K => ?_) _ (0)  _ K (by omega) (Nat.le_refl _))
  refine Go.iconst (v := nI 0) dMo_count_27 (by decide) ?_
  refine Go.istore_n dMo_count_28 (by decide) rfl ?_
  refine Go.weak (lp_Mo_count_29 _ (fun z209 h209 K => ?_) _ (0)  _ K (by omega) (Nat.le_refl _))
  refine Go.iload_n dMo_count_61 rfl ?_
  refine Go.if_lt (tgt := 71) dMo_count_62 (by decide) (fun q210 => ?_) (fun q210 => ?_)
  · refine Go.iconst (v := -1) dMo_count_71 (by decide) ?_
    refine Go.iret dMo_count_72 rfl rfl (by decide) ?_
    exact ⟨_, rfl, K⟩
  · refine Go.iload_n dMo_count_65 rfl ?_
    refine Go.bipush (v := nI 7) dMo_count_66 (by decide) ?_
    refine Go.icmp_le (tgt := 73) dMo_count_68 (by decide) (fun q211 => ?_) (fun q211 => ?_)
    · refine Go.iload_n dMo_count_73 rfl ?_
      refine Go.iconst (v := nI 2) dMo_count_74 (by decide) ?_
      refine Go.icmp_ge (tgt := 94) dMo_count_75 (by decide) (fun q212 => ?_) (fun q212 => ?_)
      · refine Go.iload_n dMo_count_94 rfl ?_
        refine Go.bipush (v := nI 6) dMo_count_95 (by decide) ?_
        refine Go.icmp_ne (tgt := 107) dMo_count_97 (by decide) (fun q213 => ?_) (fun q213 => ?_)
        · refine Go.iload_n dMo_count_107 rfl ?_
          refine Go.bipush (v := nI 7) dMo_count_108 (by decide) ?_
          refine Go.icmp_ne (tgt := 120) dMo_count_110 (by decide) (fun q214 => ?_) (fun q214 => ?_)
          · obtain ⟨m, hm, em⟩ := nI_of2 (x := y) (M := nI 7) (n := 7) (by decide) q210 q211
            subst em
            have m2 : 2 ≤ m := tle q212 (by decide) (by omega)
            have m6 : m ≠ 6 := fun z => q213 (by rw [z])
            have m7 : m ≠ 7 := fun z => q214 (by rw [z])
            refine Go.aload_n dMo_count_120 rfl (Nat.ne_of_beq_eq_false rfl) ?_
            refine Go.iload_n dMo_count_121 rfl ?_
            refine Go.iconst (v := nI 2) dMo_count_122 (by decide) ?_
            refine Go.isub dMo_count_123 ?_
            refine Go.iald (jn := (m - 2)) dMo_count_124 (pk_sub (by omega)) (Nat.lt_of_lt_of_eq (by omega) (K.l_counts).symm) (by omega) ?_
            refine Go.iret dMo_count_125 rfl rfl (by decide) ?_
            exact ⟨_, rfl, K⟩
          · refine Go.aload_n dMo_count_113 rfl (Nat.ne_of_beq_eq_false rfl) ?_
            refine Go.cVr mMo_costNow [] dMo_count_114 vwMo_148 (Nat.le_of_ble_eq_true rfl) rfl rfl (Nat.le_of_ble_eq_true rfl) rfl (Nat.le_of_ble_eq_true rfl) (g_Mo_costNow K   ) (fun v215 _ => ?_)
            refine Go.goto (tgt := 125) dMo_count_117 (by decide) ?_
            refine Go.iret dMo_count_125 rfl rfl (by decide) ?_
            exact ⟨_, rfl, K⟩
        · refine Go.aload_n dMo_count_100 rfl (Nat.ne_of_beq_eq_false rfl) ?_
          refine Go.getIv (v := (nw)) dMo_count_101 flMo_13 (Nat.le_of_ble_eq_true rfl) rfl K.now ?_
          refine Go.goto (tgt := 125) dMo_count_104 (by decide) ?_
          refine Go.iret dMo_count_125 rfl rfl (by decide) ?_
          exact ⟨_, rfl, K⟩
      · refine Go.iload_n dMo_count_78 rfl ?_
        refine Go.if_ne (tgt := 89) dMo_count_79 (by decide) (fun q216 => ?_) (fun q216 => ?_)
        · refine Go.aload_n dMo_count_89 rfl (Nat.ne_of_beq_eq_false rfl) ?_
          refine Go.getIv (v := nI (mt)) dMo_count_90 flMo_36 (Nat.le_of_ble_eq_true rfl) rfl K.trucks ?_
          refine Go.iret dMo_count_93 rfl rfl (by decide) ?_
          exact ⟨_, rfl, K⟩
        · refine Go.aload_n dMo_count_82 rfl (Nat.ne_of_beq_eq_false rfl) ?_
          refine Go.getIv (v := nI (md)) dMo_count_83 flMo_16 (Nat.le_of_ble_eq_true rfl) rfl K.doors ?_
          refine Go.goto (tgt := 93) dMo_count_86 (by decide) ?_
          refine Go.iret dMo_count_93 rfl rfl (by decide) ?_
          exact ⟨_, rfl, K⟩
    · refine Go.iconst (v := -1) dMo_count_71 (by decide) ?_
      refine Go.iret dMo_count_72 rfl rfl (by decide) ?_
      exact ⟨_, rfl, K⟩
set_option maxHeartbeats 2000000 in
theorem lp_Mo_bound_33 {sc : Nat × (Nat → Int32)} {d bc bs : Nat} {md mt wn : Nat} {nw : Int32} {stf wtf : Nat → Int32} {h0 : AH} {h : AH} {Q : GO → AH → Prop} (n : Int32) (t : Nat) (ht : t < mt) (K : KR ((md, mt, wn), nw, stf, wtf) h0 h) (kont0 : ∀ (l : Int32) (z0 z : AV), Go sc false false (d + 2) bc bs mMo_bound 91 [vO 5 (0), vI n, vI (nI (t)), vI l, z0, z] [] h Q) : ∀ (k0 : Nat) (q : Nat) (l : Int32) (z : AV), (q ≤ md) → md - q ≤ k0 → Go sc false false (d + 2) bc bs mMo_bound 33 [vO 5 (0), vI n, vI (nI (t)), vI l, vI (nI (q)), z] [] h Q := by
  intro k0
  induction k0 using Nat.strongRecOn with
  | _ k0 ih =>
    intro q l z hq hk0
    have b_md : md ≤ 4 := K.doors_le
    have b_mt : mt ≤ 12 := K.trucks_le
    have b_wn : wn ≤ 12 := K.waits_le
    refine Go.iload dMo_bound_33 rfl ?_
    refine Go.aload_n dMo_bound_35 rfl (Nat.ne_of_beq_eq_false rfl) ?_
    refine Go.getIv (v := nI (md)) dMo_bound_36 flMo_16 (Nat.le_of_ble_eq_true rfl) rfl K.doors ?_
    refine Go.icmp_ge (tgt := 91) dMo_bound_39 (by decide) (fun q217 => ?_) (fun q217 => ?_)
    · replace q217 := tle q217 (by omega) (by omega)
      exact Go.weak (kont0  _ _ _ )
    · replace q217 := tnle q217 (by omega) (by omega)
      refine Go.aload_n dMo_bound_42 rfl (Nat.ne_of_beq_eq_false rfl) ?_
      refine Go.iload_n dMo_bound_43 rfl ?_
      refine Go.iload dMo_bound_44 rfl ?_
      refine Go.aload_n dMo_bound_46 rfl (Nat.ne_of_beq_eq_false rfl) ?_
      refine Go.iload dMo_bound_47 rfl ?_
      refine Go.cVr mMo_freeFrom [vI (nI (q))] dMo_bound_49 vwMo_107 (Nat.le_of_ble_eq_true rfl) rfl rfl (Nat.le_of_ble_eq_true rfl) rfl (Nat.le_of_ble_eq_true rfl) (g_Mo_freeFrom K _  ) (fun v218 _ => ?_)
      refine Go.cVr mMo_startAt [vI (nI (t)), vI (nI (q)), vI v218] dMo_bound_52 vwMo_110 (Nat.le_of_ble_eq_true rfl) rfl rfl (Nat.le_of_ble_eq_true rfl) rfl (Nat.le_of_ble_eq_true rfl) (g_Mo_startAt K (t) (q) _ (by omega) (by omega) ) (fun v219 _ => ?_)
      refine Go.istore dMo_bound_55 (by decide) rfl ?_
      refine Go.iload dMo_bound_57 rfl ?_
      refine Go.if_lt (tgt := 85) dMo_bound_59 (by decide) (fun q220 => ?_) (fun q220 => ?_)
      · refine Go.iinc (v := nI (q + 1)) dMo_bound_85 (by decide) rfl (nI_inc _) rfl ?_
        refine Go.goto (tgt := 33) dMo_bound_88 (by decide) ?_
        exact Go.weak (ih (md - ((q + 1))) (by omega) ((q + 1)) _ _ (by omega) (Nat.le_refl _))
      · refine Go.iload dMo_bound_62 rfl ?_
        refine Go.aload_n dMo_bound_64 rfl (Nat.ne_of_beq_eq_false rfl) ?_
        refine Go.getR dMo_bound_65 flMo_45 (Nat.le_of_ble_eq_true rfl) rfl K.r_arrival ?_
        refine Go.iload_n dMo_bound_68 rfl ?_
        refine Go.iald (jn := t) dMo_bound_69 rfl (Nat.lt_of_lt_of_eq (by omega) (K.l_arrival).symm) (by omega) ?_
        refine Go.isub dMo_bound_70 ?_
        refine Go.iload_n dMo_bound_71 rfl ?_
        refine Go.icmp_ge (tgt := 85) dMo_bound_72 (by decide) (fun q221 => ?_) (fun q221 => ?_)
        · refine Go.iinc (v := nI (q + 1)) dMo_bound_85 (by decide) rfl (nI_inc _) rfl ?_
          refine Go.goto (tgt := 33) dMo_bound_88 (by decide) ?_
          exact Go.weak (ih (md - ((q + 1))) (by omega) ((q + 1)) _ _ (by omega) (Nat.le_refl _))
        · refine Go.iload dMo_bound_75 rfl ?_
          refine Go.aload_n dMo_bound_77 rfl (Nat.ne_of_beq_eq_false rfl) ?_
          refine Go.getR dMo_bound_78 flMo_45 (Nat.le_of_ble_eq_true rfl) rfl K.r_arrival ?_
          refine Go.iload_n dMo_bound_81 rfl ?_
          refine Go.iald (jn := t) dMo_bound_82 rfl (Nat.lt_of_lt_of_eq (by omega) (K.l_arrival).symm) (by omega) ?_
          refine Go.isub dMo_bound_83 ?_
          refine Go.istore_n dMo_bound_84 (by decide) rfl ?_
          refine Go.iinc (v := nI (q + 1)) dMo_bound_85 (by decide) rfl (nI_inc _) rfl ?_
          refine Go.goto (tgt := 33) dMo_bound_88 (by decide) ?_
          exact Go.weak (ih (md - ((q + 1))) (by omega) ((q + 1)) _ _ (by omega) (Nat.le_refl _))
set_option maxHeartbeats 2000000 in
theorem lp_Mo_bound_9 {sc : Nat × (Nat → Int32)} {d bc bs : Nat} {md mt wn : Nat} {nw : Int32} {stf wtf : Nat → Int32} {h0 : AH} {h : AH} {Q : GO → AH → Prop}  (K : KR ((md, mt, wn), nw, stf, wtf) h0 h) (kont0 : ∀ (n : Int32) (z0 z1 z2 z3 : AV), Go sc false false (d + 2) bc bs mMo_bound 101 [vO 5 (0), vI n, z0, z1, z2, z3] [] h Q) : ∀ (k0 : Nat) (t : Nat) (n : Int32) (z1 z2 z3 : AV), (t ≤ mt) → mt - t ≤ k0 → Go sc false false (d + 2) bc bs mMo_bound 9 [vO 5 (0), vI n, vI (nI (t)), z1, z2, z3] [] h Q := by
  intro k0
  induction k0 using Nat.strongRecOn with
  | _ k0 ih =>
    intro t n z1 z2 z3 ht hk0
    have b_md : md ≤ 4 := K.doors_le
    have b_mt : mt ≤ 12 := K.trucks_le
    have b_wn : wn ≤ 12 := K.waits_le
    refine Go.iload_n dMo_bound_9 rfl ?_
    refine Go.aload_n dMo_bound_10 rfl (Nat.ne_of_beq_eq_false rfl) ?_
    refine Go.getIv (v := nI (mt)) dMo_bound_11 flMo_36 (Nat.le_of_ble_eq_true rfl) rfl K.trucks ?_
    refine Go.icmp_ge (tgt := 101) dMo_bound_14 (by decide) (fun q222 => ?_) (fun q222 => ?_)
    · replace q222 := tle q222 (by omega) (by omega)
      exact Go.weak (kont0  _ _ _ _ _ )
    · replace q222 := tnle q222 (by omega) (by omega)
      refine Go.aload_n dMo_bound_17 rfl (Nat.ne_of_beq_eq_false rfl) ?_
      refine Go.getR dMo_bound_18 flMo_39 (Nat.le_of_ble_eq_true rfl) rfl K.r_state ?_
      refine Go.iload_n dMo_bound_21 rfl ?_
      refine Go.ialdv (v := ((stf (t)))) (jn := t) dMo_bound_22 rfl (Nat.lt_of_lt_of_eq (by omega) (K.l_state).symm) (by omega) (K.state (t)) ?_
      refine Go.if_ne (tgt := 95) dMo_bound_23 (by decide) (fun q224 => ?_) (fun q224 => ?_)
      · refine Go.iinc (v := nI (t + 1)) dMo_bound_95 (by decide) rfl (nI_inc _) rfl ?_
        refine Go.goto (tgt := 9) dMo_bound_98 (by decide) ?_
        exact Go.weak (ih (mt - ((t + 1))) (by omega) ((t + 1)) _ _ _ _ (by omega) (Nat.le_refl _))
      · refine Go.sipush (v := nI 5000) dMo_bound_26 (by decide) ?_
        refine Go.istore_n dMo_bound_29 (by decide) rfl ?_
        refine Go.iconst (v := nI 0) dMo_bound_30 (by decide) ?_
        refine Go.istore dMo_bound_31 (by decide) rfl ?_
        refine Go.weak (lp_Mo_bound_33 _ (t) (by omega) K (fun l225 z0225 z225 => ?_) _ (0) _ _ (by omega) (Nat.le_refl _))
        refine Go.iload_n dMo_bound_91 rfl ?_
        refine Go.iload_n dMo_bound_92 rfl ?_
        refine Go.iadd dMo_bound_93 ?_
        refine Go.istore_n dMo_bound_94 (by decide) rfl ?_
        refine Go.iinc (v := nI (t + 1)) dMo_bound_95 (by decide) rfl (nI_inc _) rfl ?_
        refine Go.goto (tgt := 9) dMo_bound_98 (by decide) ?_
        exact Go.weak (ih (mt - ((t + 1))) (by omega) ((t + 1)) _ _ _ _ (by omega) (Nat.le_refl _))
set_option maxHeartbeats 2000000 in
theorem g_Mo_bound {sc : Nat × (Nat → Int32)} {d bc bs : Nat} {md mt wn : Nat} {nw : Int32} {stf wtf : Nat → Int32} {h0 : AH} {h : AH} (K : KR ((md, mt, wn), nw, stf, wtf) h0 h)  : Go sc true false (d + 2) bc bs mMo_bound 0 [vO 5 (0), vU, vU, vU, vU, vU] [] h (PV (fun _ => KR ((md, mt, wn), nw, stf, wtf) h0)) := by
  have b_md : md ≤ 4 := K.doors_le
  have b_mt : mt ≤ 12 := K.trucks_le
  have b_wn : wn ≤ 12 := K.waits_le
  refine Go.aload_n dMo_bound_0 rfl (Nat.ne_of_beq_eq_false rfl) ?_
  refine Go.iconst (v := nI 0) dMo_bound_1 (by decide) ?_
  refine Go.putI dMo_bound_2 fwMo_bound_7 (Nat.le_of_ble_eq_true rfl) rfl ⟨rfl, rfl⟩ ?_
  refine Go.hav (Kp := fun z => KR ((md, mt, wn), nw, stf, wtf) h0 z ∧ z.1 5 0 0 = nI (0) ∧ (∀ c i k, c ≠ 5 → z.1 c i k = h.1 c i k)) ⟨K.up (by omega), up_self, fun _ _ _ hc => up_ne (Or.inl hc)⟩ (fun hh94 K0 => ?_)
  obtain ⟨K, e0, ek⟩ := K0
  refine Go.iconst (v := nI 0) dMo_bound_5 (by decide) ?_
  refine Go.istore_n dMo_bound_6 (by decide) rfl ?_
  refine Go.iconst (v := nI 0) dMo_bound_7 (by decide) ?_
  refine Go.istore_n dMo_bound_8 (by decide) rfl ?_
  refine Go.weak (lp_Mo_bound_9  K (fun n226 z0226 z1226 z2226 z3226 => ?_) _ (0) _ _ _ _ (by omega) (Nat.le_refl _))
  refine Go.iload_n dMo_bound_101 rfl ?_
  refine Go.iret dMo_bound_102 rfl rfl (by decide) ?_
  exact ⟨_, rfl, K⟩
