/-! LEAVES: what doors and trucks answer of themselves -/
def rV (v : Int32) (h : AH) : GO → AH → Prop := fun g h' => g = .inl (some (vI v)) ∧ h' = h
def rO (k i : Nat) (h : AH) : GO → AH → Prop := fun g h' => g = .inl (some (vO k i)) ∧ h' = h
def rN (h : AH) : GO → AH → Prop := fun g h' => g = .inl none ∧ h' = h
def rT (k : Nat) (h : AH) : GO → AH → Prop := fun g h' => g = .inr k ∧ h' = h
def mx (a b : Int32) : Int32 := if a < b then b else a
def mn (a b : Int32) : Int32 := if b < a then b else a
def bz (p : Prop) [Decidable p] : Int32 := if p then 1 else 0
def sp_ready (m : Nat → Nat → Nat → Int32) (i : Nat) (now : Int32) : Int32 := mx (m 0 i 1) (mx (m 0 i 5) now)
def sp_start (m : Nat → Nat → Nat → Int32) (i j : Nat) (ready : Int32) : Int32 := if m 0 i 3 ≠ 0 then -1 else if m 0 i 0 &&& (1 <<< (m 3 j 1 &&& 31)) = 0 then -1 else if mx (m 3 j 2) ready + m 3 j 3 ≤ m 0 i 2 then mx (m 3 j 2) ready else -1
def sp_moved (m : Nat → Nat → Nat → Int32) (j : Nat) : Int32 := if m 3 j 6 = m 3 j 8 then (if m 3 j 7 = m 3 j 9 then 0 else 1) else 1
def sp_planned (m : Nat → Nat → Nat → Int32) (j : Nat) (door : Int32) : Int32 := if m 3 j 5 = 0 then (if m 3 j 6 = door then 1 else 0) else 0
def sp_cost (m : Nat → Nat → Nat → Int32) (j : Nat) (start : Int32) : Int32 := if start = -1 then 5000 else start - m 3 j 2
def sp_before (m : Nat → Nat → Nat → Int32) (i j : Nat) : Int32 := if m 3 i 4 = m 3 j 4 then (if m 3 i 2 = m 3 j 2 then (if m 3 i 0 < m 3 j 0 then 1 else 0) else (if m 3 i 2 < m 3 j 2 then 1 else 0)) else (if m 3 i 4 < m 3 j 4 then 1 else 0)
set_option maxHeartbeats 1000000 in
theorem g_Do_readyAt {sc : Nat × (Nat → Int32)} {d bc bs : Nat} {h : AH} (i : Nat) (now : Int32) : Go sc true true (d + 1) bc bs mDo_readyAt 0 [vO 0 i, vI now] [] h (rV (sp_ready h.1 i now) h) := by
  refine Go.aload_n dDo_readyAt_0 rfl (Nat.ne_of_beq_eq_false rfl) ?_
  refine Go.getI dDo_readyAt_1 flDo_15 (Nat.le_of_ble_eq_true rfl) rfl ?_
  refine Go.aload_n dDo_readyAt_4 rfl (Nat.ne_of_beq_eq_false rfl) ?_
  refine Go.getI dDo_readyAt_5 flDo_28 (Nat.le_of_ble_eq_true rfl) rfl ?_
  refine Go.iload_n dDo_readyAt_8 rfl ?_
  refine Go.mmax dDo_readyAt_9 mtDo_37 (Nat.le_of_ble_eq_true rfl) (by omega) ?_
  refine Go.mmax dDo_readyAt_12 mtDo_37 (Nat.le_of_ble_eq_true rfl) (by omega) ?_
  refine Go.iret dDo_readyAt_15 rfl rfl (by decide) ?_
  exact ⟨rfl, rfl⟩
set_option maxHeartbeats 1000000 in
theorem g_Do_startOf {sc : Nat × (Nat → Int32)} {d bc bs : Nat} {h : AH} (i j : Nat) (ready : Int32) : Go sc true true (d + 1) bc bs mDo_startOf 0 [vO 0 i, vO 3 j, vI ready, vU] [] h (rV (sp_start h.1 i j ready) h) := by
  refine Go.aload_n dDo_startOf_0 rfl (Nat.ne_of_beq_eq_false rfl) ?_
  refine Go.getI dDo_startOf_1 flDo_21 (Nat.le_of_ble_eq_true rfl) rfl ?_
  refine Go.if_ne (tgt := 21) dDo_startOf_4 (by decide) (fun q1 => ?_) (fun q1 => ?_)
  · refine Go.iconst (v := (-1)) dDo_startOf_21 (by decide) ?_
    refine Go.iret dDo_startOf_22 rfl rfl (by decide) ?_
    refine ⟨?_, rfl⟩
    unfold sp_start mx
    first | (simp_all; done) | (simp_all; intro h9; exact absurd h9 (Int32.not_le.mpr q3))
  · refine Go.aload_n dDo_startOf_7 rfl (Nat.ne_of_beq_eq_false rfl) ?_
    refine Go.getI dDo_startOf_8 flDo_9 (Nat.le_of_ble_eq_true rfl) rfl ?_
    refine Go.iconst (v := 1) dDo_startOf_11 (by decide) ?_
    refine Go.aload_n dDo_startOf_12 rfl (Nat.ne_of_beq_eq_false rfl) ?_
    refine Go.getI dDo_startOf_13 flDo_43 (Nat.le_of_ble_eq_true rfl) rfl ?_
    refine Go.ishl dDo_startOf_16 ?_
    refine Go.iand dDo_startOf_17 ?_
    refine Go.if_ne (tgt := 23) dDo_startOf_18 (by decide) (fun q2 => ?_) (fun q2 => ?_)
    · refine Go.aload_n dDo_startOf_23 rfl (Nat.ne_of_beq_eq_false rfl) ?_
      refine Go.getI dDo_startOf_24 flDo_48 (Nat.le_of_ble_eq_true rfl) rfl ?_
      refine Go.iload_n dDo_startOf_27 rfl ?_
      refine Go.mmax dDo_startOf_28 mtDo_37 (Nat.le_of_ble_eq_true rfl) (by omega) ?_
      refine Go.istore_n dDo_startOf_31 (by decide) rfl ?_
      refine Go.iload_n dDo_startOf_32 rfl ?_
      refine Go.aload_n dDo_startOf_33 rfl (Nat.ne_of_beq_eq_false rfl) ?_
      refine Go.getI dDo_startOf_34 flDo_51 (Nat.le_of_ble_eq_true rfl) rfl ?_
      refine Go.iadd dDo_startOf_37 ?_
      refine Go.aload_n dDo_startOf_38 rfl (Nat.ne_of_beq_eq_false rfl) ?_
      refine Go.getI dDo_startOf_39 flDo_18 (Nat.le_of_ble_eq_true rfl) rfl ?_
      refine Go.icmp_gt (tgt := 49) dDo_startOf_42 (by decide) (fun q3 => ?_) (fun q3 => ?_)
      · refine Go.iconst (v := (-1)) dDo_startOf_49 (by decide) ?_
        refine Go.iret dDo_startOf_50 rfl rfl (by decide) ?_
        refine ⟨?_, rfl⟩
        unfold sp_start mx
        first | (simp_all; done) | (simp_all; intro h9; exact absurd h9 (Int32.not_le.mpr q3))
      · refine Go.iload_n dDo_startOf_45 rfl ?_
        refine Go.goto (tgt := 50) dDo_startOf_46 (by decide) ?_
        refine Go.iret dDo_startOf_50 rfl rfl (by decide) ?_
        refine ⟨?_, rfl⟩
        unfold sp_start mx
        first | (simp_all; done) | (simp_all; intro h9; exact absurd h9 (Int32.not_le.mpr q3))
    · refine Go.iconst (v := (-1)) dDo_startOf_21 (by decide) ?_
      refine Go.iret dDo_startOf_22 rfl rfl (by decide) ?_
      refine ⟨?_, rfl⟩
      unfold sp_start mx
      first | (simp_all; done) | (simp_all; intro h9; exact absurd h9 (Int32.not_le.mpr q3))
set_option maxHeartbeats 1000000 in
theorem g_Tr_hasMoved {sc : Nat × (Nat → Int32)} {d bc bs : Nat} {h : AH} (j : Nat) : Go sc true true d bc bs mTr_hasMoved 0 [vO 3 j] [] h (rV (sp_moved h.1 j) h) := by
  refine Go.aload_n dTr_hasMoved_0 rfl (Nat.ne_of_beq_eq_false rfl) ?_
  refine Go.getI dTr_hasMoved_1 flTr_27 (Nat.le_of_ble_eq_true rfl) rfl ?_
  refine Go.aload_n dTr_hasMoved_4 rfl (Nat.ne_of_beq_eq_false rfl) ?_
  refine Go.getI dTr_hasMoved_5 flTr_33 (Nat.le_of_ble_eq_true rfl) rfl ?_
  refine Go.icmp_ne (tgt := 22) dTr_hasMoved_8 (by decide) (fun q1 => ?_) (fun q1 => ?_)
  · refine Go.iconst (v := 1) dTr_hasMoved_22 (by decide) ?_
    refine Go.goto (tgt := 27) dTr_hasMoved_23 (by decide) ?_
    refine Go.iret dTr_hasMoved_27 rfl rfl (by decide) ?_
    refine ⟨?_, rfl⟩
    unfold sp_moved
    simp_all
  · refine Go.aload_n dTr_hasMoved_11 rfl (Nat.ne_of_beq_eq_false rfl) ?_
    refine Go.getI dTr_hasMoved_12 flTr_30 (Nat.le_of_ble_eq_true rfl) rfl ?_
    refine Go.aload_n dTr_hasMoved_15 rfl (Nat.ne_of_beq_eq_false rfl) ?_
    refine Go.getI dTr_hasMoved_16 flTr_36 (Nat.le_of_ble_eq_true rfl) rfl ?_
    refine Go.icmp_eq (tgt := 26) dTr_hasMoved_19 (by decide) (fun q2 => ?_) (fun q2 => ?_)
    · refine Go.iconst (v := 0) dTr_hasMoved_26 (by decide) ?_
      refine Go.iret dTr_hasMoved_27 rfl rfl (by decide) ?_
      refine ⟨?_, rfl⟩
      unfold sp_moved
      simp_all
    · refine Go.iconst (v := 1) dTr_hasMoved_22 (by decide) ?_
      refine Go.goto (tgt := 27) dTr_hasMoved_23 (by decide) ?_
      refine Go.iret dTr_hasMoved_27 rfl rfl (by decide) ?_
      refine ⟨?_, rfl⟩
      unfold sp_moved
      simp_all
set_option maxHeartbeats 1000000 in
theorem g_Tr_isPlannedFor {sc : Nat × (Nat → Int32)} {d bc bs : Nat} {h : AH} (j : Nat) (door : Int32) : Go sc true true d bc bs mTr_isPlannedFor 0 [vO 3 j, vI door] [] h (rV (sp_planned h.1 j door) h) := by
  refine Go.aload_n dTr_isPlannedFor_0 rfl (Nat.ne_of_beq_eq_false rfl) ?_
  refine Go.getI dTr_isPlannedFor_1 flTr_24 (Nat.le_of_ble_eq_true rfl) rfl ?_
  refine Go.if_ne (tgt := 19) dTr_isPlannedFor_4 (by decide) (fun q1 => ?_) (fun q1 => ?_)
  · refine Go.iconst (v := 0) dTr_isPlannedFor_19 (by decide) ?_
    refine Go.iret dTr_isPlannedFor_20 rfl rfl (by decide) ?_
    refine ⟨?_, rfl⟩
    unfold sp_planned
    simp_all
  · refine Go.aload_n dTr_isPlannedFor_7 rfl (Nat.ne_of_beq_eq_false rfl) ?_
    refine Go.getI dTr_isPlannedFor_8 flTr_27 (Nat.le_of_ble_eq_true rfl) rfl ?_
    refine Go.iload_n dTr_isPlannedFor_11 rfl ?_
    refine Go.icmp_ne (tgt := 19) dTr_isPlannedFor_12 (by decide) (fun q2 => ?_) (fun q2 => ?_)
    · refine Go.iconst (v := 0) dTr_isPlannedFor_19 (by decide) ?_
      refine Go.iret dTr_isPlannedFor_20 rfl rfl (by decide) ?_
      refine ⟨?_, rfl⟩
      unfold sp_planned
      simp_all
    · refine Go.iconst (v := 1) dTr_isPlannedFor_15 (by decide) ?_
      refine Go.goto (tgt := 20) dTr_isPlannedFor_16 (by decide) ?_
      refine Go.iret dTr_isPlannedFor_20 rfl rfl (by decide) ?_
      refine ⟨?_, rfl⟩
      unfold sp_planned
      simp_all
set_option maxHeartbeats 1000000 in
theorem g_Tr_costAt {sc : Nat × (Nat → Int32)} {d bc bs : Nat} {h : AH} (j : Nat) (start : Int32) : Go sc true true d bc bs mTr_costAt 0 [vO 3 j, vI start] [] h (rV (sp_cost h.1 j start) h) := by
  refine Go.iload_n dTr_costAt_0 rfl ?_
  refine Go.iconst (v := (-1)) dTr_costAt_1 (by decide) ?_
  refine Go.icmp_ne (tgt := 11) dTr_costAt_2 (by decide) (fun q1 => ?_) (fun q1 => ?_)
  · refine Go.iload_n dTr_costAt_11 rfl ?_
    refine Go.aload_n dTr_costAt_12 rfl (Nat.ne_of_beq_eq_false rfl) ?_
    refine Go.getI dTr_costAt_13 flTr_15 (Nat.le_of_ble_eq_true rfl) rfl ?_
    refine Go.isub dTr_costAt_16 ?_
    refine Go.iret dTr_costAt_17 rfl rfl (by decide) ?_
    refine ⟨?_, rfl⟩
    unfold sp_cost
    simp_all
  · refine Go.sipush (v := 5000) dTr_costAt_5 (by decide) ?_
    refine Go.goto (tgt := 17) dTr_costAt_8 (by decide) ?_
    refine Go.iret dTr_costAt_17 rfl rfl (by decide) ?_
    refine ⟨?_, rfl⟩
    unfold sp_cost
    simp_all
set_option maxHeartbeats 1000000 in
theorem g_Tr_goesBefore {sc : Nat × (Nat → Int32)} {d bc bs : Nat} {h : AH} (i j : Nat) : Go sc true true d bc bs mTr_goesBefore 0 [vO 3 i, vO 3 j] [] h (rV (sp_before h.1 i j) h) := by
  refine Go.aload_n dTr_goesBefore_0 rfl (Nat.ne_of_beq_eq_false rfl) ?_
  refine Go.getI dTr_goesBefore_1 flTr_21 (Nat.le_of_ble_eq_true rfl) rfl ?_
  refine Go.aload_n dTr_goesBefore_4 rfl (Nat.ne_of_beq_eq_false rfl) ?_
  refine Go.getI dTr_goesBefore_5 flTr_21 (Nat.le_of_ble_eq_true rfl) rfl ?_
  refine Go.icmp_eq (tgt := 28) dTr_goesBefore_8 (by decide) (fun q1 => ?_) (fun q1 => ?_)
  · refine Go.aload_n dTr_goesBefore_28 rfl (Nat.ne_of_beq_eq_false rfl) ?_
    refine Go.getI dTr_goesBefore_29 flTr_15 (Nat.le_of_ble_eq_true rfl) rfl ?_
    refine Go.aload_n dTr_goesBefore_32 rfl (Nat.ne_of_beq_eq_false rfl) ?_
    refine Go.getI dTr_goesBefore_33 flTr_15 (Nat.le_of_ble_eq_true rfl) rfl ?_
    refine Go.icmp_eq (tgt := 56) dTr_goesBefore_36 (by decide) (fun q2 => ?_) (fun q2 => ?_)
    · refine Go.aload_n dTr_goesBefore_56 rfl (Nat.ne_of_beq_eq_false rfl) ?_
      refine Go.getI dTr_goesBefore_57 flTr_52 (Nat.le_of_ble_eq_true rfl) rfl ?_
      refine Go.aload_n dTr_goesBefore_60 rfl (Nat.ne_of_beq_eq_false rfl) ?_
      refine Go.getI dTr_goesBefore_61 flTr_52 (Nat.le_of_ble_eq_true rfl) rfl ?_
      refine Go.icmp_ge (tgt := 71) dTr_goesBefore_64 (by decide) (fun q3 => ?_) (fun q3 => ?_)
      · refine Go.iconst (v := 0) dTr_goesBefore_71 (by decide) ?_
        refine Go.iret dTr_goesBefore_72 rfl rfl (by decide) ?_
        refine ⟨?_, rfl⟩
        unfold sp_before
        simp_all
      · refine Go.iconst (v := 1) dTr_goesBefore_67 (by decide) ?_
        refine Go.goto (tgt := 72) dTr_goesBefore_68 (by decide) ?_
        refine Go.iret dTr_goesBefore_72 rfl rfl (by decide) ?_
        refine ⟨?_, rfl⟩
        unfold sp_before
        simp_all
    · refine Go.aload_n dTr_goesBefore_39 rfl (Nat.ne_of_beq_eq_false rfl) ?_
      refine Go.getI dTr_goesBefore_40 flTr_15 (Nat.le_of_ble_eq_true rfl) rfl ?_
      refine Go.aload_n dTr_goesBefore_43 rfl (Nat.ne_of_beq_eq_false rfl) ?_
      refine Go.getI dTr_goesBefore_44 flTr_15 (Nat.le_of_ble_eq_true rfl) rfl ?_
      refine Go.icmp_ge (tgt := 54) dTr_goesBefore_47 (by decide) (fun q4 => ?_) (fun q4 => ?_)
      · refine Go.iconst (v := 0) dTr_goesBefore_54 (by decide) ?_
        refine Go.iret dTr_goesBefore_55 rfl rfl (by decide) ?_
        refine ⟨?_, rfl⟩
        unfold sp_before
        simp_all
      · refine Go.iconst (v := 1) dTr_goesBefore_50 (by decide) ?_
        refine Go.goto (tgt := 55) dTr_goesBefore_51 (by decide) ?_
        refine Go.iret dTr_goesBefore_55 rfl rfl (by decide) ?_
        refine ⟨?_, rfl⟩
        unfold sp_before
        simp_all
  · refine Go.aload_n dTr_goesBefore_11 rfl (Nat.ne_of_beq_eq_false rfl) ?_
    refine Go.getI dTr_goesBefore_12 flTr_21 (Nat.le_of_ble_eq_true rfl) rfl ?_
    refine Go.aload_n dTr_goesBefore_15 rfl (Nat.ne_of_beq_eq_false rfl) ?_
    refine Go.getI dTr_goesBefore_16 flTr_21 (Nat.le_of_ble_eq_true rfl) rfl ?_
    refine Go.icmp_ge (tgt := 26) dTr_goesBefore_19 (by decide) (fun q5 => ?_) (fun q5 => ?_)
    · refine Go.iconst (v := 0) dTr_goesBefore_26 (by decide) ?_
      refine Go.iret dTr_goesBefore_27 rfl rfl (by decide) ?_
      refine ⟨?_, rfl⟩
      unfold sp_before
      simp_all
    · refine Go.iconst (v := 1) dTr_goesBefore_22 (by decide) ?_
      refine Go.goto (tgt := 27) dTr_goesBefore_23 (by decide) ?_
      refine Go.iret dTr_goesBefore_27 rfl rfl (by decide) ?_
      refine ⟨?_, rfl⟩
      unfold sp_before
      simp_all
set_option maxHeartbeats 1000000 in
theorem g_Tr_setPlan {sc : Nat × (Nat → Int32)} {d bc bs : Nat} {h : AH} (j : Nat) (a b : Int32) : Go sc true false d bc bs mTr_setPlan 0 [vO 3 j, vI a, vI b] [] h (rN (ma_up (ma_up h.1 3 j 6 a) 3 j 7 b, h.2)) := by
  refine Go.aload_n dTr_setPlan_0 rfl (Nat.ne_of_beq_eq_false rfl) ?_
  refine Go.iload_n dTr_setPlan_1 rfl ?_
  refine Go.putI dTr_setPlan_2 fwTr_setPlan_27 (Nat.le_of_ble_eq_true rfl) rfl ⟨rfl, rfl⟩ ?_
  refine Go.aload_n dTr_setPlan_5 rfl (Nat.ne_of_beq_eq_false rfl) ?_
  refine Go.iload_n dTr_setPlan_6 rfl ?_
  refine Go.putI dTr_setPlan_7 fwTr_setPlan_30 (Nat.le_of_ble_eq_true rfl) rfl ⟨rfl, rfl⟩ ?_
  refine Go.vret dTr_setPlan_10 rfl (by decide) ?_
  exact ⟨rfl, rfl⟩
set_option maxHeartbeats 1000000 in
theorem g_Tr_rememberPlan {sc : Nat × (Nat → Int32)} {d bc bs : Nat} {h : AH} (j : Nat) : Go sc true false d bc bs mTr_rememberPlan 0 [vO 3 j] [] h (rN (ma_up (ma_up h.1 3 j 8 (h.1 3 j 6)) 3 j 9 (h.1 3 j 7), h.2)) := by
  refine Go.aload_n dTr_rememberPlan_0 rfl (Nat.ne_of_beq_eq_false rfl) ?_
  refine Go.aload_n dTr_rememberPlan_1 rfl (Nat.ne_of_beq_eq_false rfl) ?_
  refine Go.getI dTr_rememberPlan_2 flTr_27 (Nat.le_of_ble_eq_true rfl) rfl ?_
  refine Go.putI dTr_rememberPlan_5 fwTr_rememberPlan_33 (Nat.le_of_ble_eq_true rfl) rfl ⟨rfl, rfl⟩ ?_
  refine Go.aload_n dTr_rememberPlan_8 rfl (Nat.ne_of_beq_eq_false rfl) ?_
  refine Go.aload_n dTr_rememberPlan_9 rfl (Nat.ne_of_beq_eq_false rfl) ?_
  refine Go.getI dTr_rememberPlan_10 flTr_30 (Nat.le_of_ble_eq_true rfl) rfl ?_
  refine Go.putI dTr_rememberPlan_13 fwTr_rememberPlan_36 (Nat.le_of_ble_eq_true rfl) rfl ⟨rfl, rfl⟩ ?_
  refine Go.vret dTr_rememberPlan_16 rfl (by decide) ?_
  refine ⟨rfl, ?_⟩
  simp [ma_up]
