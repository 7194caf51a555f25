/-! SEALS, LOADS, LATE ONES; WHAT IS KNOWN; COSTS -/
def sp_sealV (m : Nat → Nat → Nat → Int32) (j : Nat) (x : Int32) : Int32 := if m 3 j 10 = -1 then 0 else if m 3 j 10 = x then 1 else 2
def sp_sealM (m : Nat → Nat → Nat → Int32) (j : Nat) (x : Int32) : Nat → Nat → Nat → Int32 := if m 3 j 10 = -1 then ma_up m 3 j 10 x else if m 3 j 10 = x then ma_up m 3 j 11 1 else ma_up (ma_up m 3 j 11 0) 3 j 10 (-1)
set_option maxHeartbeats 2000000 in
theorem g_Tr_tellSeal {sc : Nat × (Nat → Int32)} {d bc bs : Nat} {h : AH} (j : Nat) (x : Int32) : Go sc true false d bc bs mTr_tellSeal 0 [vO 3 j, vI x] [] h (rV (sp_sealV h.1 j x) (sp_sealM h.1 j x, h.2)) := by
  refine Go.aload_n dTr_tellSeal_0 rfl (Nat.ne_of_beq_eq_false rfl) ?_
  refine Go.getI dTr_tellSeal_1 flTr_39 (Nat.le_of_ble_eq_true rfl) rfl ?_
  refine Go.iconst (v := (-1)) dTr_tellSeal_4 (by decide) ?_
  refine Go.icmp_ne (tgt := 15) dTr_tellSeal_5 (by decide) (fun q1 => ?_) (fun q1 => ?_)
  · refine Go.aload_n dTr_tellSeal_15 rfl (Nat.ne_of_beq_eq_false rfl) ?_
    refine Go.aload_n dTr_tellSeal_16 rfl (Nat.ne_of_beq_eq_false rfl) ?_
    refine Go.getI dTr_tellSeal_17 flTr_39 (Nat.le_of_ble_eq_true rfl) rfl ?_
    refine Go.iload_n dTr_tellSeal_20 rfl ?_
    refine Go.icmp_ne (tgt := 28) dTr_tellSeal_21 (by decide) (fun q2 => ?_) (fun q2 => ?_)
    · refine Go.iconst (v := 0) dTr_tellSeal_28 (by decide) ?_
      refine Go.putI dTr_tellSeal_29 fwTr_tellSeal_42 (Nat.le_of_ble_eq_true rfl) rfl ⟨rfl, rfl⟩ ?_
      refine Go.aload_n dTr_tellSeal_32 rfl (Nat.ne_of_beq_eq_false rfl) ?_
      refine Go.getI dTr_tellSeal_33 flTr_42 (Nat.le_of_ble_eq_true rfl) rfl ?_
      refine Go.if_eq (tgt := 41) dTr_tellSeal_36 (by decide) (fun q3 => ?_) (fun q3 => ?_)
      · refine Go.aload_n dTr_tellSeal_41 rfl (Nat.ne_of_beq_eq_false rfl) ?_
        refine Go.iconst (v := (-1)) dTr_tellSeal_42 (by decide) ?_
        refine Go.putI dTr_tellSeal_43 fwTr_tellSeal_39 (Nat.le_of_ble_eq_true rfl) rfl ⟨rfl, rfl⟩ ?_
        refine Go.iconst (v := 2) dTr_tellSeal_46 (by decide) ?_
        refine Go.iret dTr_tellSeal_47 rfl rfl (by decide) ?_
        first
          | (exfalso; simp [ma_up] at q3; done)
          | (exfalso; simp [ma_up] at q4; done)
          | (refine ⟨?_, ?_⟩
             · unfold sp_sealV; simp_all
             · unfold sp_sealM; simp_all)
      · refine Go.iconst (v := 1) dTr_tellSeal_39 (by decide) ?_
        refine Go.iret dTr_tellSeal_40 rfl rfl (by decide) ?_
        first
          | (exfalso; simp [ma_up] at q3; done)
          | (exfalso; simp [ma_up] at q4; done)
          | (refine ⟨?_, ?_⟩
             · unfold sp_sealV; simp_all
             · unfold sp_sealM; simp_all)
    · refine Go.iconst (v := 1) dTr_tellSeal_24 (by decide) ?_
      refine Go.goto (tgt := 29) dTr_tellSeal_25 (by decide) ?_
      refine Go.putI dTr_tellSeal_29 fwTr_tellSeal_42 (Nat.le_of_ble_eq_true rfl) rfl ⟨rfl, rfl⟩ ?_
      refine Go.aload_n dTr_tellSeal_32 rfl (Nat.ne_of_beq_eq_false rfl) ?_
      refine Go.getI dTr_tellSeal_33 flTr_42 (Nat.le_of_ble_eq_true rfl) rfl ?_
      refine Go.if_eq (tgt := 41) dTr_tellSeal_36 (by decide) (fun q4 => ?_) (fun q4 => ?_)
      · refine Go.aload_n dTr_tellSeal_41 rfl (Nat.ne_of_beq_eq_false rfl) ?_
        refine Go.iconst (v := (-1)) dTr_tellSeal_42 (by decide) ?_
        refine Go.putI dTr_tellSeal_43 fwTr_tellSeal_39 (Nat.le_of_ble_eq_true rfl) rfl ⟨rfl, rfl⟩ ?_
        refine Go.iconst (v := 2) dTr_tellSeal_46 (by decide) ?_
        refine Go.iret dTr_tellSeal_47 rfl rfl (by decide) ?_
        first
          | (exfalso; simp [ma_up] at q3; done)
          | (exfalso; simp [ma_up] at q4; done)
          | (refine ⟨?_, ?_⟩
             · unfold sp_sealV; simp_all
             · unfold sp_sealM; simp_all)
      · refine Go.iconst (v := 1) dTr_tellSeal_39 (by decide) ?_
        refine Go.iret dTr_tellSeal_40 rfl rfl (by decide) ?_
        first
          | (exfalso; simp [ma_up] at q3; done)
          | (exfalso; simp [ma_up] at q4; done)
          | (refine ⟨?_, ?_⟩
             · unfold sp_sealV; simp_all
             · unfold sp_sealM; simp_all)
  · refine Go.aload_n dTr_tellSeal_8 rfl (Nat.ne_of_beq_eq_false rfl) ?_
    refine Go.iload_n dTr_tellSeal_9 rfl ?_
    refine Go.putI dTr_tellSeal_10 fwTr_tellSeal_39 (Nat.le_of_ble_eq_true rfl) rfl ⟨rfl, rfl⟩ ?_
    refine Go.iconst (v := 0) dTr_tellSeal_13 (by decide) ?_
    refine Go.iret dTr_tellSeal_14 rfl rfl (by decide) ?_
    first
      | (exfalso; simp [ma_up] at q3; done)
      | (exfalso; simp [ma_up] at q4; done)
      | (refine ⟨?_, ?_⟩
         · unfold sp_sealV; simp_all
         · unfold sp_sealM; simp_all)
set_option maxHeartbeats 2000000 in
theorem g_Bk_seal {sc : Nat × (Nat → Int32)} {d bc bs : Nat} {h : AH} (s : SB h) {n : Nat} (hn : h.1 4 0 5 = nI n) (hle : n ≤ 12) (x v : Int32) : Go sc true false (d + 9) (bc + 3) (bs + 18) mBk_seal 0 [vO 4 0, vI x, vI v, vU] [] h (rAct n x h (fun j g h' => ((0 ≤ v ∧ v ≤ 9999) ∧ (h.1 3 j 5 = 0 ∨ h.1 3 j 5 = 1) ∧ g = .inl (some (vI (sp_sealV h.1 j v))) ∧ h' = (sp_sealM h.1 j v, h.2)) ∨ ((0 ≤ v ∧ v ≤ 9999) ∧ ¬ (h.1 3 j 5 = 0 ∨ h.1 3 j 5 = 1) ∧ g = .inr 4 ∧ h' = h) ∨ (¬ (0 ≤ v ∧ v ≤ 9999) ∧ g = .inr 1 ∧ h' = h))) := by
  refine Go.aload_n dBk_seal_0 rfl (Nat.ne_of_beq_eq_false rfl) ?_
  refine Go.iload_n dBk_seal_1 rfl ?_
  refine Go.callVj mBk_truckNumbered [vI x] dBk_seal_2 vwBk_114 (Nat.le_of_ble_eq_true rfl) rfl rfl (Nat.le_of_ble_eq_true rfl) rfl (Nat.le_of_ble_eq_true rfl) rfl (by decide) (g_Bk_truckNumbered s hn hle x) (fun j hj hx => ?_) (fun q => Or.inr ⟨q, rfl, rfl⟩)
  refine Go.astore_n dBk_seal_5 (by decide) rfl ?_
  refine Go.iload_n dBk_seal_6 rfl ?_
  refine Go.iconst (v := 0) dBk_seal_7 (by decide) ?_
  refine Go.sipush (v := 9999) dBk_seal_8 (by decide) ?_
  refine Go.callSx mBk_requireRange [vI v, vI 0, vI 9999] dBk_seal_11 vwBk_52 rfl rfl (Nat.le_of_ble_eq_true rfl) rfl (Nat.le_of_ble_eq_true rfl) rfl (by decide) (g_Bk_requireRange v 0 9999) (fun ok => ?_) (fun ok => Or.inl ⟨j, hj, hx, Or.inr (Or.inr ⟨ok, rfl, rfl⟩)⟩)
  refine Go.aload_n dBk_seal_14 rfl (Nat.ne_of_beq_eq_false rfl) ?_
  refine Go.getI dBk_seal_15 flBk_107 (Nat.le_of_ble_eq_true rfl) rfl ?_
  refine Go.if_eq (tgt := 39) dBk_seal_18 (by decide) (fun q1 => ?_) (fun q1 => ?_)
  · refine Go.aload_n dBk_seal_39 rfl (Nat.ne_of_beq_eq_false rfl) ?_
    refine Go.iload_n dBk_seal_40 rfl ?_
    refine Go.callVw mTr_tellSeal [vI v] dBk_seal_41 vwBk_145 (Nat.le_of_ble_eq_true rfl) rfl rfl (Nat.le_of_ble_eq_true rfl) rfl (Nat.le_of_ble_eq_true rfl) (g_Tr_tellSeal j v) ?_
    refine Go.iret dBk_seal_44 rfl rfl (by decide) ?_
    first
      | exact Or.inl ⟨j, hj, hx, Or.inl ⟨ok, Or.inl q1, rfl, rfl⟩⟩
      | exact Or.inl ⟨j, hj, hx, Or.inl ⟨ok, Or.inr q2, rfl, rfl⟩⟩
  · refine Go.aload_n dBk_seal_21 rfl (Nat.ne_of_beq_eq_false rfl) ?_
    refine Go.getI dBk_seal_22 flBk_107 (Nat.le_of_ble_eq_true rfl) rfl ?_
    refine Go.iconst (v := 1) dBk_seal_25 (by decide) ?_
    refine Go.icmp_eq (tgt := 39) dBk_seal_26 (by decide) (fun q2 => ?_) (fun q2 => ?_)
    · refine Go.aload_n dBk_seal_39 rfl (Nat.ne_of_beq_eq_false rfl) ?_
      refine Go.iload_n dBk_seal_40 rfl ?_
      refine Go.callVw mTr_tellSeal [vI v] dBk_seal_41 vwBk_145 (Nat.le_of_ble_eq_true rfl) rfl rfl (Nat.le_of_ble_eq_true rfl) rfl (Nat.le_of_ble_eq_true rfl) (g_Tr_tellSeal j v) ?_
      refine Go.iret dBk_seal_44 rfl rfl (by decide) ?_
      first
        | exact Or.inl ⟨j, hj, hx, Or.inl ⟨ok, Or.inl q1, rfl, rfl⟩⟩
        | exact Or.inl ⟨j, hj, hx, Or.inl ⟨ok, Or.inr q2, rfl, rfl⟩⟩
    · exact Go.thrown dBk_seal_29 dBk_seal_32 dBk_seal_33 dBk_seal_35 dBk_seal_38 twBk_seal_29 rfl (by omega) (Nat.le_of_ble_eq_true rfl) (Or.inl ⟨j, hj, hx, Or.inr (Or.inl ⟨ok, fun z => z.elim q1 q2, rfl, rfl⟩)⟩)
set_option maxHeartbeats 2000000 in
theorem g_Bk_load {sc : Nat × (Nat → Int32)} {d bc bs : Nat} {h : AH} (s : SB h) {n : Nat} (hn : h.1 4 0 5 = nI n) (hle : n ≤ 12) (x a b : Int32) : Go sc true false (d + 9) (bc + 4) (bs + 24) mBk_load 0 [vO 4 0, vI x, vI a, vI b, vU] [] h (rAct n x h (fun j g h' => (((0 ≤ a ∧ a ≤ 10000) ∧ (0 ≤ b ∧ b ≤ 10000)) ∧ h.1 3 j 5 = 1 ∧ g = .inl (some (vI (if a = b then 1 else 0))) ∧ h' = (ma_up h.1 3 j 12 (if a = b then 1 else 0), h.2)) ∨ (((0 ≤ a ∧ a ≤ 10000) ∧ (0 ≤ b ∧ b ≤ 10000)) ∧ ¬ h.1 3 j 5 = 1 ∧ g = .inr 4 ∧ h' = h) ∨ (¬ ((0 ≤ a ∧ a ≤ 10000) ∧ (0 ≤ b ∧ b ≤ 10000)) ∧ g = .inr 1 ∧ h' = h))) := by
  refine Go.aload_n dBk_load_0 rfl (Nat.ne_of_beq_eq_false rfl) ?_
  refine Go.iload_n dBk_load_1 rfl ?_
  refine Go.callVj mBk_truckNumbered [vI x] dBk_load_2 vwBk_114 (Nat.le_of_ble_eq_true rfl) rfl rfl (Nat.le_of_ble_eq_true rfl) rfl (Nat.le_of_ble_eq_true rfl) rfl (by decide) (g_Bk_truckNumbered s hn hle x) (fun j hj hx => ?_) (fun q => Or.inr ⟨q, rfl, rfl⟩)
  refine Go.astore dBk_load_5 (by decide) rfl ?_
  refine Go.iload_n dBk_load_7 rfl ?_
  refine Go.iconst (v := 0) dBk_load_8 (by decide) ?_
  refine Go.sipush (v := 10000) dBk_load_9 (by decide) ?_
  refine Go.callSx mBk_requireRange [vI a, vI 0, vI 10000] dBk_load_12 vwBk_52 rfl rfl (Nat.le_of_ble_eq_true rfl) rfl (Nat.le_of_ble_eq_true rfl) rfl (by decide) (g_Bk_requireRange a 0 10000) (fun ok1 => ?_) (fun ok1 => Or.inl ⟨j, hj, hx, Or.inr (Or.inr ⟨fun z => ok1 z.1, rfl, rfl⟩)⟩)
  refine Go.iload_n dBk_load_15 rfl ?_
  refine Go.iconst (v := 0) dBk_load_16 (by decide) ?_
  refine Go.sipush (v := 10000) dBk_load_17 (by decide) ?_
  refine Go.callSx mBk_requireRange [vI b, vI 0, vI 10000] dBk_load_20 vwBk_52 rfl rfl (Nat.le_of_ble_eq_true rfl) rfl (Nat.le_of_ble_eq_true rfl) rfl (by decide) (g_Bk_requireRange b 0 10000) (fun ok2 => ?_) (fun ok2 => Or.inl ⟨j, hj, hx, Or.inr (Or.inr ⟨fun z => ok2 z.2, rfl, rfl⟩)⟩)
  refine Go.aload dBk_load_23 rfl (Nat.ne_of_beq_eq_false rfl) ?_
  refine Go.iconst (v := 1) dBk_load_25 (by decide) ?_
  refine Go.callSx mBk_requireState [vO 3 j, vI 1] dBk_load_26 vwBk_149 rfl rfl (Nat.le_of_ble_eq_true rfl) rfl (Nat.le_of_ble_eq_true rfl) rfl (by decide) (g_Bk_requireState j 1) (fun ok3 => ?_) (fun ok3 => Or.inl ⟨j, hj, hx, Or.inr (Or.inl ⟨⟨ok1, ok2⟩, ok3, rfl, rfl⟩)⟩)
  refine Go.aload dBk_load_29 rfl (Nat.ne_of_beq_eq_false rfl) ?_
  refine Go.iload_n dBk_load_31 rfl ?_
  refine Go.iload_n dBk_load_32 rfl ?_
  refine Go.icmp_ne (tgt := 40) dBk_load_33 (by decide) (fun q1 => ?_) (fun q1 => ?_)
  · refine Go.iconst (v := 0) dBk_load_40 (by decide) ?_
    refine Go.putI dBk_load_41 fwBk_load_153 (Nat.le_of_ble_eq_true rfl) rfl ⟨rfl, rfl⟩ ?_
    refine Go.aload dBk_load_44 rfl (Nat.ne_of_beq_eq_false rfl) ?_
    refine Go.getI dBk_load_46 flBk_153 (Nat.le_of_ble_eq_true rfl) rfl ?_
    refine Go.iret dBk_load_49 rfl (by simp [ma_up]; rfl) (by decide) ?_
    refine Or.inl ⟨j, hj, hx, Or.inl ⟨⟨ok1, ok2⟩, ok3, ?_, ?_⟩⟩ <;> simp_all [ma_up]
  · refine Go.iconst (v := 1) dBk_load_36 (by decide) ?_
    refine Go.goto (tgt := 41) dBk_load_37 (by decide) ?_
    refine Go.putI dBk_load_41 fwBk_load_153 (Nat.le_of_ble_eq_true rfl) rfl ⟨rfl, rfl⟩ ?_
    refine Go.aload dBk_load_44 rfl (Nat.ne_of_beq_eq_false rfl) ?_
    refine Go.getI dBk_load_46 flBk_153 (Nat.le_of_ble_eq_true rfl) rfl ?_
    refine Go.iret dBk_load_49 rfl (by simp [ma_up]; rfl) (by decide) ?_
    refine Or.inl ⟨j, hj, hx, Or.inl ⟨⟨ok1, ok2⟩, ok3, ?_, ?_⟩⟩ <;> simp_all [ma_up]
def up_late (m : Nat → Nat → Nat → Int32) (j : Nat) (v : Int32) : Nat → Nat → Nat → Int32 := if v ≤ m 3 j 7 then ma_up m 3 j 2 v else ma_up (ma_up (ma_up m 3 j 2 v) 3 j 6 (-1)) 3 j 7 (-1)
set_option maxHeartbeats 2000000 in
theorem g_Bk_late {sc : Nat × (Nat → Int32)} {d bc bs : Nat} {h : AH} (s : SB h) {n : Nat} (hn : h.1 4 0 5 = nI n) (hle : n ≤ 12) (x v : Int32) : Go sc true false (d + 9) (bc + 3) (bs + 18) mBk_late 0 [vO 4 0, vI x, vI v, vU, vU] [] h (rAct n x h (fun j g h' => ((0 ≤ v ∧ v ≤ 2000) ∧ h.1 3 j 5 = 0 ∧ g = .inl (some (vI (if h.1 3 j 6 = -1 then 0 else 1))) ∧ h' = (up_late h.1 j v, h.2)) ∨ ((0 ≤ v ∧ v ≤ 2000) ∧ ¬ h.1 3 j 5 = 0 ∧ g = .inr 4 ∧ h' = h) ∨ (¬ (0 ≤ v ∧ v ≤ 2000) ∧ g = .inr 1 ∧ h' = h))) := by
  refine Go.aload_n dBk_late_0 rfl (Nat.ne_of_beq_eq_false rfl) ?_
  refine Go.iload_n dBk_late_1 rfl ?_
  refine Go.callVj mBk_truckNumbered [vI x] dBk_late_2 vwBk_114 (Nat.le_of_ble_eq_true rfl) rfl rfl (Nat.le_of_ble_eq_true rfl) rfl (Nat.le_of_ble_eq_true rfl) rfl (by decide) (g_Bk_truckNumbered s hn hle x) (fun j hj hx => ?_) (fun q => Or.inr ⟨q, rfl, rfl⟩)
  refine Go.astore_n dBk_late_5 (by decide) rfl ?_
  refine Go.iload_n dBk_late_6 rfl ?_
  refine Go.iconst (v := 0) dBk_late_7 (by decide) ?_
  refine Go.sipush (v := 2000) dBk_late_8 (by decide) ?_
  refine Go.callSx mBk_requireRange [vI v, vI 0, vI 2000] dBk_late_11 vwBk_52 rfl rfl (Nat.le_of_ble_eq_true rfl) rfl (Nat.le_of_ble_eq_true rfl) rfl (by decide) (g_Bk_requireRange v 0 2000) (fun ok1 => ?_) (fun ok1 => Or.inl ⟨j, hj, hx, Or.inr (Or.inr ⟨ok1, rfl, rfl⟩)⟩)
  refine Go.aload_n dBk_late_14 rfl (Nat.ne_of_beq_eq_false rfl) ?_
  refine Go.iconst (v := 0) dBk_late_15 (by decide) ?_
  refine Go.callSx mBk_requireState [vO 3 j, vI 0] dBk_late_16 vwBk_149 rfl rfl (Nat.le_of_ble_eq_true rfl) rfl (Nat.le_of_ble_eq_true rfl) rfl (by decide) (g_Bk_requireState j 0) (fun ok2 => ?_) (fun ok2 => Or.inl ⟨j, hj, hx, Or.inr (Or.inl ⟨ok1, ok2, rfl, rfl⟩)⟩)
  refine Go.aload_n dBk_late_19 rfl (Nat.ne_of_beq_eq_false rfl) ?_
  refine Go.getI dBk_late_20 flBk_127 (Nat.le_of_ble_eq_true rfl) rfl ?_
  refine Go.iconst (v := (-1)) dBk_late_23 (by decide) ?_
  refine Go.icmp_eq (tgt := 31) dBk_late_24 (by decide) (fun q1 => ?_) (fun q1 => ?_)
  · refine Go.iconst (v := 0) dBk_late_31 (by decide) ?_
    refine Go.istore dBk_late_32 (by decide) rfl ?_
    refine Go.aload_n dBk_late_34 rfl (Nat.ne_of_beq_eq_false rfl) ?_
    refine Go.iload_n dBk_late_35 rfl ?_
    refine Go.putI dBk_late_36 fwBk_late_77 (Nat.le_of_ble_eq_true rfl) rfl ⟨rfl, rfl⟩ ?_
    refine Go.aload_n dBk_late_39 rfl (Nat.ne_of_beq_eq_false rfl) ?_
    refine Go.getI dBk_late_40 flBk_134 (Nat.le_of_ble_eq_true rfl) rfl ?_
    refine Go.iload_n dBk_late_43 rfl ?_
    refine Go.icmp_ge (tgt := 53) dBk_late_44 (by decide) (fun q2 => ?_) (fun q2 => ?_)
    · refine Go.iload dBk_late_53 rfl ?_
      refine Go.iret dBk_late_55 rfl rfl (by decide) ?_
      refine Or.inl ⟨j, hj, hx, Or.inl ⟨ok1, ok2, ?_, ?_⟩⟩
      · simp_all
      · unfold up_late
        first
          | (rw [if_pos (by simpa [ma_up] using q2)]; done)
          | (rw [if_pos (by simpa [ma_up] using q3)]; done)
          | (rw [if_neg (fun h9 => q2 (by simpa [ma_up] using h9))]; done)
          | (rw [if_neg (fun h9 => q3 (by simpa [ma_up] using h9))]; done)
    · refine Go.aload_n dBk_late_47 rfl (Nat.ne_of_beq_eq_false rfl) ?_
      refine Go.iconst (v := (-1)) dBk_late_48 (by decide) ?_
      refine Go.iconst (v := (-1)) dBk_late_49 (by decide) ?_
      refine Go.callVn mTr_setPlan [vI (-1), vI (-1)] dBk_late_50 vwBk_165 (Nat.le_of_ble_eq_true rfl) rfl rfl (Nat.le_of_ble_eq_true rfl) rfl (Nat.le_of_ble_eq_true rfl) (g_Tr_setPlan j (-1) (-1)) ?_
      refine Go.iload dBk_late_53 rfl ?_
      refine Go.iret dBk_late_55 rfl rfl (by decide) ?_
      refine Or.inl ⟨j, hj, hx, Or.inl ⟨ok1, ok2, ?_, ?_⟩⟩
      · simp_all
      · unfold up_late
        first
          | (rw [if_pos (by simpa [ma_up] using q2)]; done)
          | (rw [if_pos (by simpa [ma_up] using q3)]; done)
          | (rw [if_neg (fun h9 => q2 (by simpa [ma_up] using h9))]; done)
          | (rw [if_neg (fun h9 => q3 (by simpa [ma_up] using h9))]; done)
  · refine Go.iconst (v := 1) dBk_late_27 (by decide) ?_
    refine Go.goto (tgt := 32) dBk_late_28 (by decide) ?_
    refine Go.istore dBk_late_32 (by decide) rfl ?_
    refine Go.aload_n dBk_late_34 rfl (Nat.ne_of_beq_eq_false rfl) ?_
    refine Go.iload_n dBk_late_35 rfl ?_
    refine Go.putI dBk_late_36 fwBk_late_77 (Nat.le_of_ble_eq_true rfl) rfl ⟨rfl, rfl⟩ ?_
    refine Go.aload_n dBk_late_39 rfl (Nat.ne_of_beq_eq_false rfl) ?_
    refine Go.getI dBk_late_40 flBk_134 (Nat.le_of_ble_eq_true rfl) rfl ?_
    refine Go.iload_n dBk_late_43 rfl ?_
    refine Go.icmp_ge (tgt := 53) dBk_late_44 (by decide) (fun q3 => ?_) (fun q3 => ?_)
    · refine Go.iload dBk_late_53 rfl ?_
      refine Go.iret dBk_late_55 rfl rfl (by decide) ?_
      refine Or.inl ⟨j, hj, hx, Or.inl ⟨ok1, ok2, ?_, ?_⟩⟩
      · simp_all
      · unfold up_late
        first
          | (rw [if_pos (by simpa [ma_up] using q2)]; done)
          | (rw [if_pos (by simpa [ma_up] using q3)]; done)
          | (rw [if_neg (fun h9 => q2 (by simpa [ma_up] using h9))]; done)
          | (rw [if_neg (fun h9 => q3 (by simpa [ma_up] using h9))]; done)
    · refine Go.aload_n dBk_late_47 rfl (Nat.ne_of_beq_eq_false rfl) ?_
      refine Go.iconst (v := (-1)) dBk_late_48 (by decide) ?_
      refine Go.iconst (v := (-1)) dBk_late_49 (by decide) ?_
      refine Go.callVn mTr_setPlan [vI (-1), vI (-1)] dBk_late_50 vwBk_165 (Nat.le_of_ble_eq_true rfl) rfl rfl (Nat.le_of_ble_eq_true rfl) rfl (Nat.le_of_ble_eq_true rfl) (g_Tr_setPlan j (-1) (-1)) ?_
      refine Go.iload dBk_late_53 rfl ?_
      refine Go.iret dBk_late_55 rfl rfl (by decide) ?_
      refine Or.inl ⟨j, hj, hx, Or.inl ⟨ok1, ok2, ?_, ?_⟩⟩
      · simp_all
      · unfold up_late
        first
          | (rw [if_pos (by simpa [ma_up] using q2)]; done)
          | (rw [if_pos (by simpa [ma_up] using q3)]; done)
          | (rw [if_neg (fun h9 => q2 (by simpa [ma_up] using h9))]; done)
          | (rw [if_neg (fun h9 => q3 (by simpa [ma_up] using h9))]; done)
def sp_alone (m : Nat → Nat → Nat → Int32) (j : Nat) : Nat → Int32
  | 0 => 5000
  | i + 1 => mn (sp_alone m j i) (sp_cost m j (sp_start m i j (sp_ready m i (m 4 0 6))))
set_option maxHeartbeats 2000000 in
theorem l_Bk_costAlone {sc : Nat × (Nat → Int32)} {d bc bs : Nat} {h : AH} (s : SB h) {n : Nat} (hn : h.1 4 0 4 = nI n) (hle : n ≤ 4) (j : Nat) (z : AV) : ∀ k i, i + k = n → ∀ z : AV, Go sc true true (d + 2) bc bs mBk_costAlone 6 [vO 4 0, vO 3 j, vI (sp_alone h.1 j i), vI (nI i), z] [] h (rV (sp_alone h.1 j n) h)
  | k, i, hik, z => by
    refine Go.iload_n dBk_costAlone_6 rfl ?_
    refine Go.aload_n dBk_costAlone_7 rfl (Nat.ne_of_beq_eq_false rfl) ?_
    refine Go.getI dBk_costAlone_8 flBk_31 (Nat.le_of_ble_eq_true rfl) rfl ?_
    refine Go.icmp_ge (tgt := 56) dBk_costAlone_11 (by decide) (fun q1 => ?_) (fun q1 => ?_)
    · refine Go.iload_n dBk_costAlone_56 rfl ?_
      refine Go.iret dBk_costAlone_57 rfl rfl (by decide) ?_
      rw [hn] at q1
      have hi : i = n := by
        have h9 : n ≤ i := (nI_leI (by omega) (by omega)).mp q1
        omega
      subst hi
      exact ⟨rfl, rfl⟩
    · refine Go.aload_n dBk_costAlone_14 rfl (Nat.ne_of_beq_eq_false rfl) ?_
      refine Go.getR dBk_costAlone_15 flBk_11 (Nat.le_of_ble_eq_true rfl) rfl s.doors ?_
      refine Go.iload_n dBk_costAlone_18 rfl ?_
      have hi : i < n := by
        rw [hn] at q1
        exact Nat.not_le.mp (fun h9 => q1 (nI_le h9 (by omega)))
      refine Go.aald dBk_costAlone_19 (by decide) rfl rfl (by rw [s.ldoors]; omega) (by omega) (s.door (by omega)) ?_
      refine Go.aload_n dBk_costAlone_20 rfl (Nat.ne_of_beq_eq_false rfl) ?_
      refine Go.aload_n dBk_costAlone_21 rfl (Nat.ne_of_beq_eq_false rfl) ?_
      refine Go.getR dBk_costAlone_22 flBk_11 (Nat.le_of_ble_eq_true rfl) rfl s.doors ?_
      refine Go.iload_n dBk_costAlone_25 rfl ?_
      refine Go.aald dBk_costAlone_26 (by decide) rfl rfl (by rw [s.ldoors]; omega) (by omega) (s.door (by omega)) ?_
      refine Go.aload_n dBk_costAlone_27 rfl (Nat.ne_of_beq_eq_false rfl) ?_
      refine Go.getI dBk_costAlone_28 flBk_38 (Nat.le_of_ble_eq_true rfl) rfl ?_
      refine Go.callVr mDo_readyAt [vI (h.1 4 0 6)] dBk_costAlone_31 vwBk_213 (Nat.le_of_ble_eq_true rfl) rfl rfl (Nat.le_of_ble_eq_true rfl) rfl (Nat.le_of_ble_eq_true rfl) (g_Do_readyAt i (h.1 4 0 6)) ?_
      refine Go.callVr mDo_startOf [vO 3 j, vI (sp_ready h.1 i (h.1 4 0 6))] dBk_costAlone_34 vwBk_216 (Nat.le_of_ble_eq_true rfl) rfl rfl (Nat.le_of_ble_eq_true rfl) rfl (Nat.le_of_ble_eq_true rfl) (g_Do_startOf i j (sp_ready h.1 i (h.1 4 0 6))) ?_
      refine Go.istore dBk_costAlone_37 (by decide) rfl ?_
      refine Go.iload_n dBk_costAlone_39 rfl ?_
      refine Go.aload_n dBk_costAlone_40 rfl (Nat.ne_of_beq_eq_false rfl) ?_
      refine Go.iload dBk_costAlone_41 rfl ?_
      refine Go.callVr mTr_costAt [vI (sp_start h.1 i j (sp_ready h.1 i (h.1 4 0 6)))] dBk_costAlone_43 vwBk_210 (Nat.le_of_ble_eq_true rfl) rfl rfl (Nat.le_of_ble_eq_true rfl) rfl (Nat.le_of_ble_eq_true rfl) (g_Tr_costAt j (sp_start h.1 i j (sp_ready h.1 i (h.1 4 0 6)))) ?_
      refine Go.mmin dBk_costAlone_46 mtBk_220 (Nat.le_of_ble_eq_true rfl) (by omega) ?_
      refine Go.istore_n dBk_costAlone_49 (by decide) rfl ?_
      refine Go.iinc dBk_costAlone_50 (by decide) rfl rfl rfl ?_
      refine Go.goto (tgt := 6) dBk_costAlone_53 (by decide) ?_
      obtain ⟨k, rfl⟩ : ∃ k0, k = k0 + 1 := ⟨k - 1, by omega⟩
      have h8 := l_Bk_costAlone (sc := sc) (d := d) (bc := bc) (bs := bs) s hn hle j vU k (i + 1) (by omega) (vI (sp_start h.1 i j (sp_ready h.1 i (h.1 4 0 6))))
      rw [nI_succ] at h8
      exact h8
theorem g_Bk_costAlone {sc : Nat × (Nat → Int32)} {d bc bs : Nat} {h : AH} (s : SB h) {n : Nat} (hn : h.1 4 0 4 = nI n) (hle : n ≤ 4) (j : Nat) : Go sc true true (d + 2) bc bs mBk_costAlone 0 [vO 4 0, vO 3 j, vU, vU, vU] [] h (rV (sp_alone h.1 j n) h) := by
  refine Go.sipush (v := 5000) dBk_costAlone_0 (by decide) ?_
  refine Go.istore_n dBk_costAlone_3 (by decide) rfl ?_
  refine Go.iconst (v := 0) dBk_costAlone_4 (by decide) ?_
  refine Go.istore_n dBk_costAlone_5 (by decide) rfl ?_
  exact l_Bk_costAlone s hn hle j vU n 0 (by omega) vU
set_option maxHeartbeats 2000000 in
theorem l_Bk_bound {sc : Nat × (Nat → Int32)} {d bc bs : Nat} {h : AH} (s : SB h) {n : Nat} (hn : h.1 4 0 5 = nI n) (hle : n ≤ 12) {nd : Nat} (hnd : h.1 4 0 4 = nI nd) (hled : nd ≤ 4) : ∀ k i, i + k = n → Go sc true true (d + 3) bc bs mBk_bound 4 [vO 4 0, vI (sm (fun j => if h.1 3 j 5 = 0 then sp_alone h.1 j nd else 0) i), vI (nI i)] [] h (rV (sm (fun j => if h.1 3 j 5 = 0 then sp_alone h.1 j nd else 0) n) h)
  | k, i, hik => by
    refine Go.iload_n dBk_bound_4 rfl ?_
    refine Go.aload_n dBk_bound_5 rfl (Nat.ne_of_beq_eq_false rfl) ?_
    refine Go.getI dBk_bound_6 flBk_35 (Nat.le_of_ble_eq_true rfl) rfl ?_
    refine Go.icmp_ge (tgt := 43) dBk_bound_9 (by decide) (fun q1 => ?_) (fun q1 => ?_)
    · refine Go.iload_n dBk_bound_43 rfl ?_
      refine Go.iret dBk_bound_44 rfl rfl (by decide) ?_
      rw [hn] at q1
      have hi : i = n := by
        have h9 : n ≤ i := (nI_leI (by omega) (by omega)).mp q1
        omega
      subst hi
      exact ⟨rfl, rfl⟩
    · refine Go.aload_n dBk_bound_12 rfl (Nat.ne_of_beq_eq_false rfl) ?_
      refine Go.getR dBk_bound_13 flBk_17 (Nat.le_of_ble_eq_true rfl) rfl s.trucks ?_
      refine Go.iload_n dBk_bound_16 rfl ?_
      have hi : i < n := by
        rw [hn] at q1
        exact Nat.not_le.mp (fun h9 => q1 (nI_le h9 (by omega)))
      refine Go.aald dBk_bound_17 (by decide) rfl rfl (by rw [s.ltrucks]; omega) (by omega) (s.truck (by omega)) ?_
      refine Go.getI dBk_bound_18 flBk_107 (Nat.le_of_ble_eq_true rfl) rfl ?_
      refine Go.if_ne (tgt := 37) dBk_bound_21 (by decide) (fun q2 => ?_) (fun q2 => ?_)
      · refine Go.iinc dBk_bound_37 (by decide) rfl rfl rfl ?_
        refine Go.goto (tgt := 4) dBk_bound_40 (by decide) ?_
        obtain ⟨k, rfl⟩ : ∃ k0, k = k0 + 1 := ⟨k - 1, by omega⟩
        have h8 := l_Bk_bound (sc := sc) (d := d) (bc := bc) (bs := bs) s hn hle hnd hled k (i + 1) (by omega)
        simp only [sm] at h8
        rw [nI_succ] at h8
        first
          | (rw [if_pos q2] at h8; exact h8)
          | (rw [if_neg q2, Int32.add_zero] at h8; exact h8)
      · refine Go.iload_n dBk_bound_24 rfl ?_
        refine Go.aload_n dBk_bound_25 rfl (Nat.ne_of_beq_eq_false rfl) ?_
        refine Go.aload_n dBk_bound_26 rfl (Nat.ne_of_beq_eq_false rfl) ?_
        refine Go.getR dBk_bound_27 flBk_17 (Nat.le_of_ble_eq_true rfl) rfl s.trucks ?_
        refine Go.iload_n dBk_bound_30 rfl ?_
        refine Go.aald dBk_bound_31 (by decide) rfl rfl (by rw [s.ltrucks]; omega) (by omega) (s.truck (by omega)) ?_
        refine Go.callVr mBk_costAlone [vO 3 i] dBk_bound_32 vwBk_110 (Nat.le_of_ble_eq_true rfl) rfl rfl (Nat.le_of_ble_eq_true rfl) rfl (Nat.le_of_ble_eq_true rfl) (g_Bk_costAlone s hnd hled i) ?_
        refine Go.iadd dBk_bound_35 ?_
        refine Go.istore_n dBk_bound_36 (by decide) rfl ?_
        refine Go.iinc dBk_bound_37 (by decide) rfl rfl rfl ?_
        refine Go.goto (tgt := 4) dBk_bound_40 (by decide) ?_
        obtain ⟨k, rfl⟩ : ∃ k0, k = k0 + 1 := ⟨k - 1, by omega⟩
        have h8 := l_Bk_bound (sc := sc) (d := d) (bc := bc) (bs := bs) s hn hle hnd hled k (i + 1) (by omega)
        simp only [sm] at h8
        rw [nI_succ] at h8
        first
          | (rw [if_pos q2] at h8; exact h8)
          | (rw [if_neg q2, Int32.add_zero] at h8; exact h8)
theorem g_Bk_bound {sc : Nat × (Nat → Int32)} {d bc bs : Nat} {h : AH} (s : SB h) {n : Nat} (hn : h.1 4 0 5 = nI n) (hle : n ≤ 12) {nd : Nat} (hnd : h.1 4 0 4 = nI nd) (hled : nd ≤ 4) : Go sc true true (d + 3) bc bs mBk_bound 0 [vO 4 0, vU, vU] [] h (rV (sm (fun j => if h.1 3 j 5 = 0 then sp_alone h.1 j nd else 0) n) h) := by
  refine Go.iconst (v := 0) dBk_bound_0 (by decide) ?_
  refine Go.istore_n dBk_bound_1 (by decide) rfl ?_
  refine Go.iconst (v := 0) dBk_bound_2 (by decide) ?_
  refine Go.istore_n dBk_bound_3 (by decide) rfl ?_
  exact l_Bk_bound s hn hle hnd hled n 0 (by omega)
